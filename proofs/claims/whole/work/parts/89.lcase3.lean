section XR4
variable {E : xt_Ev} {cx : xt_Cx} {b L i : Nat} {xs : Nat → Int32} {Z : State → Prop} {k n : Nat} {S : xt_St}
set_option maxRecDepth 20000 in
set_option maxHeartbeats 2000000 in
theorem la_plan (A : xt_LA E cx b L xs) (hi : i + 6 ≤ L) (hk : k + 1 ≤ 601024 ∧ n + 6 ≤ 7293034) (hI : xt_Inv S) (kk : ∀ S9, xt_Inv S9 → xt_X E cx Z (k + 1) (n + 6) 2308 (xt_lv9 E b i none none none) [] S9) : xt_X E cx Z k n 1877 (xt_lv9 E b i none none none) [] S := by
  obtain ⟨q, P1, hq, hW, hM⟩ := st_plan (E := E) (l := cx.2.1) A.2.2.2.2.2 hI (xs (i + 1))
  refine xt_aload_n A.1 dL_law_1877 rfl ?_
  refine xt_arg A 1 (by omega) (by decide) dL_law_1878 dL_law_1879 dL_law_1881 dL_law_1882 dL_law_1883 ?_
  refine xt_aload_n A.1 dL_law_1884 rfl ?_
  refine xt_callSH A.1 mh_L_plan lkL_203 hW rfl ⟨Nat.le_of_ble_eq_true rfl, Nat.le_of_ble_eq_true rfl, hk.1, hk.2⟩ rfl (Nat.le_of_ble_eq_true rfl) dL_law_1885 (fun v S1 h1 => ?_)
  obtain ⟨rfl, h1⟩ := h1
  show xt_X E cx Z (k + 1) (n + 6) 1888 _ [.int (nI q)] S1
  refine xt_istore A.1 dL_law_1888 (Nat.le_of_ble_eq_true rfl) rfl rfl ?_
  obtain ⟨v2, P2, hM1, hM2⟩ := hM S1 h1
  show xt_X E cx Z (k + 1) (n + 6) 1890 (xt_lv9 E b i (some (.int (nI q))) none none) [] S1
  refine xt_aload_n A.1 dL_law_1890 rfl ?_
  refine xt_arg A 1 (by omega) (by decide) dL_law_1891 dL_law_1892 dL_law_1894 dL_law_1895 dL_law_1896 ?_
  refine xt_cVq A.1 mv_X6_plan lkL_205 hM1 rfl (by decide) (xt_cl49 _ _) rfl ⟨Nat.le_of_ble_eq_true rfl, Nat.le_of_ble_eq_true rfl, hk.1, hk.2⟩ rfl (Nat.le_of_ble_eq_true rfl) dL_law_1897 (fun v S2 h2 => ?_)
  obtain ⟨rfl, h2⟩ := h2
  obtain ⟨e1, e2, e3⟩ := hM2 S2 h2
  exact xt_tail A hq e1 e2 dL_law_1900 dL_law_1902 dL_law_1903 dL_law_1906 dL_law_1908 dL_law_1913 dL_law_1915 dL_law_1918 dL_law_1919 dL_law_1920 dL_law_1921 dL_law_1923 dL_law_1924 dL_law_1925 dL_law_1930 (by decide) hk (kk S2 e3)
set_option maxRecDepth 20000 in
set_option maxHeartbeats 2000000 in
theorem la_planned (A : xt_LA E cx b L xs) (hi : i + 6 ≤ L) (hk : k + 1 ≤ 601024 ∧ n + 6 ≤ 7293034) (hI : xt_Inv S) (kk : ∀ S9, xt_Inv S9 → xt_X E cx Z (k + 1) (n + 6) 2308 (xt_lv9 E b i none none none) [] S9) : xt_X E cx Z k n 1933 (xt_lv9 E b i none none none) [] S := by
  obtain ⟨q, P1, hq, hW, hM⟩ := st_planned (E := E) (l := cx.2.1) A.2.2.2.2.2 hI (xs (i + 1))
  refine xt_aload_n A.1 dL_law_1933 rfl ?_
  refine xt_arg A 1 (by omega) (by decide) dL_law_1934 dL_law_1935 dL_law_1937 dL_law_1938 dL_law_1939 ?_
  refine xt_aload_n A.1 dL_law_1940 rfl ?_
  refine xt_callSH A.1 mh_L_planned lkL_206 hW rfl ⟨Nat.le_of_ble_eq_true rfl, Nat.le_of_ble_eq_true rfl, hk.1, hk.2⟩ rfl (Nat.le_of_ble_eq_true rfl) dL_law_1941 (fun v S1 h1 => ?_)
  obtain ⟨rfl, h1⟩ := h1
  show xt_X E cx Z (k + 1) (n + 6) 1944 _ [.int (nI q)] S1
  refine xt_istore A.1 dL_law_1944 (Nat.le_of_ble_eq_true rfl) rfl rfl ?_
  obtain ⟨v2, P2, hM1, hM2⟩ := hM S1 h1
  show xt_X E cx Z (k + 1) (n + 6) 1946 (xt_lv9 E b i (some (.int (nI q))) none none) [] S1
  refine xt_aload_n A.1 dL_law_1946 rfl ?_
  refine xt_arg A 1 (by omega) (by decide) dL_law_1947 dL_law_1948 dL_law_1950 dL_law_1951 dL_law_1952 ?_
  refine xt_cVq A.1 mv_X6_planned lkL_208 hM1 rfl (by decide) (xt_cl49 _ _) rfl ⟨Nat.le_of_ble_eq_true rfl, Nat.le_of_ble_eq_true rfl, hk.1, hk.2⟩ rfl (Nat.le_of_ble_eq_true rfl) dL_law_1953 (fun v S2 h2 => ?_)
  obtain ⟨rfl, h2⟩ := h2
  obtain ⟨e1, e2, e3⟩ := hM2 S2 h2
  exact xt_tail A hq e1 e2 dL_law_1956 dL_law_1958 dL_law_1959 dL_law_1962 dL_law_1964 dL_law_1969 dL_law_1971 dL_law_1974 dL_law_1975 dL_law_1976 dL_law_1977 dL_law_1979 dL_law_1980 dL_law_1981 dL_law_1986 (by decide) hk (kk S2 e3)
set_option maxRecDepth 20000 in
set_option maxHeartbeats 2000000 in
theorem la_feed (A : xt_LA E cx b L xs) (hi : i + 6 ≤ L) (hk : k + 1 ≤ 601024 ∧ n + 6 ≤ 7293034) (hI : xt_Inv S) (kk : ∀ S9, xt_Inv S9 → xt_X E cx Z (k + 1) (n + 6) 2308 (xt_lv9 E b i none none none) [] S9) : xt_X E cx Z k n 1989 (xt_lv9 E b i none none none) [] S := by
  obtain ⟨q, P1, hq, hW, hM⟩ := st_feed (E := E) (l := cx.2.1) A.2.2.2.2.2 hI (((xs (i + 1)).toUInt32 % 65536).toInt32) (pk_vc _)
  refine xt_aload_n A.1 dL_law_1989 rfl ?_
  refine xt_arg A 1 (by omega) (by decide) dL_law_1990 dL_law_1991 dL_law_1993 dL_law_1994 dL_law_1995 ?_
  refine xt_i2c A.1 dL_law_1996 rfl ?_
  refine xt_aload_n A.1 dL_law_1997 rfl ?_
  refine xt_callSH A.1 mh_L_feed lkL_209 hW rfl ⟨Nat.le_of_ble_eq_true rfl, Nat.le_of_ble_eq_true rfl, hk.1, hk.2⟩ rfl (Nat.le_of_ble_eq_true rfl) dL_law_1998 (fun v S1 h1 => ?_)
  obtain ⟨rfl, h1⟩ := h1
  show xt_X E cx Z (k + 1) (n + 6) 2001 _ [.int (nI q)] S1
  refine xt_istore A.1 dL_law_2001 (Nat.le_of_ble_eq_true rfl) rfl rfl ?_
  obtain ⟨v2, P2, hM1, hM2⟩ := hM S1 h1
  show xt_X E cx Z (k + 1) (n + 6) 2003 (xt_lv9 E b i (some (.int (nI q))) none none) [] S1
  refine xt_aload_n A.1 dL_law_2003 rfl ?_
  refine xt_arg A 1 (by omega) (by decide) dL_law_2004 dL_law_2005 dL_law_2007 dL_law_2008 dL_law_2009 ?_
  refine xt_i2c A.1 dL_law_2010 rfl ?_
  refine xt_cVq A.1 mv_X6_feed lkL_212 hM1 rfl (by decide) (xt_cl49 _ _) rfl ⟨Nat.le_of_ble_eq_true rfl, Nat.le_of_ble_eq_true rfl, hk.1, hk.2⟩ rfl (Nat.le_of_ble_eq_true rfl) dL_law_2011 (fun v S2 h2 => ?_)
  obtain ⟨rfl, h2⟩ := h2
  obtain ⟨e1, e2, e3⟩ := hM2 S2 h2
  exact xt_tail A hq e1 e2 dL_law_2014 dL_law_2016 dL_law_2017 dL_law_2020 dL_law_2022 dL_law_2027 dL_law_2029 dL_law_2032 dL_law_2033 dL_law_2034 dL_law_2035 dL_law_2037 dL_law_2038 dL_law_2039 dL_law_2044 (by decide) hk (kk S2 e3)
set_option maxRecDepth 20000 in
set_option maxHeartbeats 2000000 in
theorem la_read (A : xt_LA E cx b L xs) (hi : i + 6 ≤ L) (hk : k + 1 ≤ 601024 ∧ n + 6 ≤ 7293034) (hI : xt_Inv S) (kk : ∀ S9, xt_Inv S9 → xt_X E cx Z (k + 1) (n + 6) 2308 (xt_lv9 E b i none none none) [] S9) : xt_X E cx Z k n 2047 (xt_lv9 E b i none none none) [] S := by
  obtain ⟨q, P1, hq, hW, hM⟩ := st_read (E := E) (l := cx.2.1) A.2.2.2.2.2 hI 
  refine xt_aload_n A.1 dL_law_2047 rfl ?_
  refine xt_aload_n A.1 dL_law_2048 rfl ?_
  refine xt_callSH A.1 mh_L_read lkL_213 hW rfl ⟨Nat.le_of_ble_eq_true rfl, Nat.le_of_ble_eq_true rfl, hk.1, hk.2⟩ rfl (Nat.le_of_ble_eq_true rfl) dL_law_2049 (fun v S1 h1 => ?_)
  obtain ⟨rfl, h1⟩ := h1
  show xt_X E cx Z (k + 1) (n + 6) 2052 _ [.int (nI q)] S1
  refine xt_istore A.1 dL_law_2052 (Nat.le_of_ble_eq_true rfl) rfl rfl ?_
  obtain ⟨v2, P2, hM1, hM2⟩ := hM S1 h1
  show xt_X E cx Z (k + 1) (n + 6) 2054 (xt_lv9 E b i (some (.int (nI q))) none none) [] S1
  refine xt_aload_n A.1 dL_law_2054 rfl ?_
  refine xt_cVq A.1 mv_X6_read lkL_216 hM1 rfl (by decide) (xt_cl49 _ _) rfl ⟨Nat.le_of_ble_eq_true rfl, Nat.le_of_ble_eq_true rfl, hk.1, hk.2⟩ rfl (Nat.le_of_ble_eq_true rfl) dL_law_2055 (fun v S2 h2 => ?_)
  obtain ⟨rfl, h2⟩ := h2
  obtain ⟨e1, e2, e3⟩ := hM2 S2 h2
  exact xt_tail A hq e1 e2 dL_law_2058 dL_law_2060 dL_law_2061 dL_law_2064 dL_law_2066 dL_law_2071 dL_law_2073 dL_law_2076 dL_law_2077 dL_law_2078 dL_law_2079 dL_law_2081 dL_law_2082 dL_law_2083 dL_law_2088 (by decide) hk (kk S2 e3)
set_option maxRecDepth 20000 in
set_option maxHeartbeats 2000000 in
theorem la_faultPosition (A : xt_LA E cx b L xs) (hi : i + 6 ≤ L) (hk : k + 1 ≤ 601024 ∧ n + 6 ≤ 7293034) (hI : xt_Inv S) (kk : ∀ S9, xt_Inv S9 → xt_X E cx Z (k + 1) (n + 6) 2308 (xt_lv9 E b i none none none) [] S9) : xt_X E cx Z k n 2091 (xt_lv9 E b i none none none) [] S := by
  obtain ⟨q, P1, hq, hW, hM⟩ := st_faultPosition (E := E) (l := cx.2.1) A.2.2.2.2.2 hI 
  refine xt_aload_n A.1 dL_law_2091 rfl ?_
  refine xt_aload_n A.1 dL_law_2092 rfl ?_
  refine xt_callSH A.1 mh_L_faultPosition lkL_217 hW rfl ⟨Nat.le_of_ble_eq_true rfl, Nat.le_of_ble_eq_true rfl, hk.1, hk.2⟩ rfl (Nat.le_of_ble_eq_true rfl) dL_law_2093 (fun v S1 h1 => ?_)
  obtain ⟨rfl, h1⟩ := h1
  show xt_X E cx Z (k + 1) (n + 6) 2096 _ [.int (nI q)] S1
  refine xt_istore A.1 dL_law_2096 (Nat.le_of_ble_eq_true rfl) rfl rfl ?_
  obtain ⟨v2, P2, hM1, hM2⟩ := hM S1 h1
  show xt_X E cx Z (k + 1) (n + 6) 2098 (xt_lv9 E b i (some (.int (nI q))) none none) [] S1
  refine xt_aload_n A.1 dL_law_2098 rfl ?_
  refine xt_cVq A.1 mv_X6_faultPosition lkL_219 hM1 rfl (by decide) (xt_cl49 _ _) rfl ⟨Nat.le_of_ble_eq_true rfl, Nat.le_of_ble_eq_true rfl, hk.1, hk.2⟩ rfl (Nat.le_of_ble_eq_true rfl) dL_law_2099 (fun v S2 h2 => ?_)
  obtain ⟨rfl, h2⟩ := h2
  obtain ⟨e1, e2, e3⟩ := hM2 S2 h2
  exact xt_tail A hq e1 e2 dL_law_2102 dL_law_2104 dL_law_2105 dL_law_2108 dL_law_2110 dL_law_2115 dL_law_2117 dL_law_2120 dL_law_2121 dL_law_2122 dL_law_2123 dL_law_2125 dL_law_2126 dL_law_2127 dL_law_2132 (by decide) hk (kk S2 e3)
set_option maxRecDepth 20000 in
set_option maxHeartbeats 2000000 in
theorem la_refusal (A : xt_LA E cx b L xs) (hi : i + 6 ≤ L) (hk : k + 1 ≤ 601024 ∧ n + 6 ≤ 7293034) (hI : xt_Inv S) (kk : ∀ S9, xt_Inv S9 → xt_X E cx Z (k + 1) (n + 6) 2308 (xt_lv9 E b i none none none) [] S9) : xt_X E cx Z k n 2135 (xt_lv9 E b i none none none) [] S := by
  by_cases c0 : xs (i + 1) = 0
  · skip
    obtain ⟨q, P1, hq, hW, hM⟩ := st_refusal (E := E) (l := cx.2.1) A.2.2.2.2.2 hI (nI 0) (Or.inl rfl)
    refine xt_aload_n A.1 dL_law_2135 rfl ?_
    refine xt_arg A 1 (by omega) (by decide) dL_law_2136 dL_law_2137 dL_law_2139 dL_law_2140 dL_law_2141 ?_
    refine xt_if_eq (tgt := 2149) A.1 dL_law_2142 (by decide) (fun _ => ?_) (fun c9 => absurd c0 c9)
    refine xt_iconst (v := nI 0) A.1 dL_law_2149 rfl ?_
    refine xt_aload_n A.1 dL_law_2150 rfl ?_
    refine xt_callSH A.1 mh_L_refusal lkL_220 hW rfl ⟨Nat.le_of_ble_eq_true rfl, Nat.le_of_ble_eq_true rfl, hk.1, hk.2⟩ rfl (Nat.le_of_ble_eq_true rfl) dL_law_2151 (fun v S1 h1 => ?_)
    obtain ⟨rfl, h1⟩ := h1
    show xt_X E cx Z (k + 1) (n + 6) 2154 _ [.int (nI q)] S1
    refine xt_istore A.1 dL_law_2154 (Nat.le_of_ble_eq_true rfl) rfl rfl ?_
    obtain ⟨v2, P2, hM1, hM2⟩ := hM S1 h1
    show xt_X E cx Z (k + 1) (n + 6) 2156 (xt_lv9 E b i (some (.int (nI q))) none none) [] S1
    refine xt_aload_n A.1 dL_law_2156 rfl ?_
    refine xt_arg A 1 (by omega) (by decide) dL_law_2157 dL_law_2158 dL_law_2160 dL_law_2161 dL_law_2162 ?_
    refine xt_if_eq (tgt := 2170) A.1 dL_law_2163 (by decide) (fun _ => ?_) (fun c9 => absurd c0 c9)
    refine xt_iconst (v := nI 0) A.1 dL_law_2170 rfl ?_
    refine xt_cVq A.1 mv_X6_refusal lkL_223 hM1 rfl (by decide) (xt_cl49 _ _) rfl ⟨Nat.le_of_ble_eq_true rfl, Nat.le_of_ble_eq_true rfl, hk.1, hk.2⟩ rfl (Nat.le_of_ble_eq_true rfl) dL_law_2171 (fun v S2 h2 => ?_)
    obtain ⟨rfl, h2⟩ := h2
    obtain ⟨e1, e2, e3⟩ := hM2 S2 h2
    exact xt_tail A hq e1 e2 dL_law_2174 dL_law_2176 dL_law_2177 dL_law_2180 dL_law_2182 dL_law_2187 dL_law_2189 dL_law_2192 dL_law_2193 dL_law_2194 dL_law_2195 dL_law_2197 dL_law_2198 dL_law_2199 dL_law_2204 (by decide) hk (kk S2 e3)
  · skip
    obtain ⟨q, P1, hq, hW, hM⟩ := st_refusal (E := E) (l := cx.2.1) A.2.2.2.2.2 hI (nI 1) (Or.inr rfl)
    refine xt_aload_n A.1 dL_law_2135 rfl ?_
    refine xt_arg A 1 (by omega) (by decide) dL_law_2136 dL_law_2137 dL_law_2139 dL_law_2140 dL_law_2141 ?_
    refine xt_if_eq (tgt := 2149) A.1 dL_law_2142 (by decide) (fun c9 => absurd c9 c0) (fun _ => ?_)
    refine xt_iconst (v := nI 1) A.1 dL_law_2145 rfl ?_
    refine xt_goto (tgt := 2150) A.1 dL_law_2146 (by decide) ?_
    refine xt_aload_n A.1 dL_law_2150 rfl ?_
    refine xt_callSH A.1 mh_L_refusal lkL_220 hW rfl ⟨Nat.le_of_ble_eq_true rfl, Nat.le_of_ble_eq_true rfl, hk.1, hk.2⟩ rfl (Nat.le_of_ble_eq_true rfl) dL_law_2151 (fun v S1 h1 => ?_)
    obtain ⟨rfl, h1⟩ := h1
    show xt_X E cx Z (k + 1) (n + 6) 2154 _ [.int (nI q)] S1
    refine xt_istore A.1 dL_law_2154 (Nat.le_of_ble_eq_true rfl) rfl rfl ?_
    obtain ⟨v2, P2, hM1, hM2⟩ := hM S1 h1
    show xt_X E cx Z (k + 1) (n + 6) 2156 (xt_lv9 E b i (some (.int (nI q))) none none) [] S1
    refine xt_aload_n A.1 dL_law_2156 rfl ?_
    refine xt_arg A 1 (by omega) (by decide) dL_law_2157 dL_law_2158 dL_law_2160 dL_law_2161 dL_law_2162 ?_
    refine xt_if_eq (tgt := 2170) A.1 dL_law_2163 (by decide) (fun c9 => absurd c9 c0) (fun _ => ?_)
    refine xt_iconst (v := nI 1) A.1 dL_law_2166 rfl ?_
    refine xt_goto (tgt := 2171) A.1 dL_law_2167 (by decide) ?_
    refine xt_cVq A.1 mv_X6_refusal lkL_223 hM1 rfl (by decide) (xt_cl49 _ _) rfl ⟨Nat.le_of_ble_eq_true rfl, Nat.le_of_ble_eq_true rfl, hk.1, hk.2⟩ rfl (Nat.le_of_ble_eq_true rfl) dL_law_2171 (fun v S2 h2 => ?_)
    obtain ⟨rfl, h2⟩ := h2
    obtain ⟨e1, e2, e3⟩ := hM2 S2 h2
    exact xt_tail A hq e1 e2 dL_law_2174 dL_law_2176 dL_law_2177 dL_law_2180 dL_law_2182 dL_law_2187 dL_law_2189 dL_law_2192 dL_law_2193 dL_law_2194 dL_law_2195 dL_law_2197 dL_law_2198 dL_law_2199 dL_law_2204 (by decide) hk (kk S2 e3)
set_option maxRecDepth 20000 in
set_option maxHeartbeats 2000000 in
theorem la_undo (A : xt_LA E cx b L xs) (hi : i + 6 ≤ L) (hk : k + 1 ≤ 601024 ∧ n + 6 ≤ 7293034) (hI : xt_Inv S) (kk : ∀ S9, xt_Inv S9 → xt_X E cx Z (k + 1) (n + 6) 2308 (xt_lv9 E b i none none none) [] S9) : xt_X E cx Z k n 2207 (xt_lv9 E b i none none none) [] S := by
  obtain ⟨q, P1, hq, hW, hM⟩ := st_undo (E := E) (l := cx.2.1) A.2.2.2.2.2 hI 
  refine xt_aload_n A.1 dL_law_2207 rfl ?_
  refine xt_aload_n A.1 dL_law_2208 rfl ?_
  refine xt_callSH A.1 mh_L_undo lkL_224 hW rfl ⟨Nat.le_of_ble_eq_true rfl, Nat.le_of_ble_eq_true rfl, hk.1, hk.2⟩ rfl (Nat.le_of_ble_eq_true rfl) dL_law_2209 (fun v S1 h1 => ?_)
  obtain ⟨rfl, h1⟩ := h1
  show xt_X E cx Z (k + 1) (n + 6) 2212 _ [.int (nI q)] S1
  refine xt_istore A.1 dL_law_2212 (Nat.le_of_ble_eq_true rfl) rfl rfl ?_
  obtain ⟨v2, P2, hM1, hM2⟩ := hM S1 h1
  show xt_X E cx Z (k + 1) (n + 6) 2214 (xt_lv9 E b i (some (.int (nI q))) none none) [] S1
  refine xt_aload_n A.1 dL_law_2214 rfl ?_
  refine xt_cVq A.1 mv_X6_undo lkL_226 hM1 rfl (by decide) (xt_cl49 _ _) rfl ⟨Nat.le_of_ble_eq_true rfl, Nat.le_of_ble_eq_true rfl, hk.1, hk.2⟩ rfl (Nat.le_of_ble_eq_true rfl) dL_law_2215 (fun v S2 h2 => ?_)
  obtain ⟨rfl, h2⟩ := h2
  obtain ⟨e1, e2, e3⟩ := hM2 S2 h2
  exact xt_tail A hq e1 e2 dL_law_2218 dL_law_2220 dL_law_2221 dL_law_2224 dL_law_2226 dL_law_2231 dL_law_2233 dL_law_2236 dL_law_2237 dL_law_2238 dL_law_2239 dL_law_2241 dL_law_2242 dL_law_2243 dL_law_2248 (by decide) hk (kk S2 e3)
set_option maxRecDepth 20000 in
set_option maxHeartbeats 2000000 in
theorem la_save (A : xt_LA E cx b L xs) (hi : i + 6 ≤ L) (hk : k + 1 ≤ 601024 ∧ n + 6 ≤ 7293034) (hI : xt_Inv S) (kk : ∀ S9, xt_Inv S9 → xt_X E cx Z (k + 1) (n + 6) 2308 (xt_lv9 E b i none none none) [] S9) : xt_X E cx Z k n 2251 (xt_lv9 E b i none none none) [] S := by
  obtain ⟨v1, P1, hW, hM⟩ := st_save (E := E) (l := cx.2.1) hI
  refine xt_aload_n A.1 dL_law_2251 rfl ?_
  refine xt_callVX A.1 mv_X5_saveSnapshot lkL_227 hW rfl (by decide) (xt_cl0 _ _) rfl ⟨Nat.le_of_ble_eq_true rfl, Nat.le_of_ble_eq_true rfl, hk.1, hk.2⟩ rfl (Nat.le_of_ble_eq_true rfl) dL_law_2252 (fun v S1 h1 => ?_) (fun X S1 h1 => h1.elim)
  obtain ⟨rfl, h1⟩ := h1
  obtain ⟨P2, hM1, hM2⟩ := hM S1 h1
  show xt_X E cx Z (k + 1) (n + 6) 2255 _ [.int v1] S1
  refine xt_aload_n A.1 dL_law_2255 rfl ?_
  refine xt_cVp A.1 mv_X6_saveSnapshot lkL_230 hM1 rfl (by decide) (xt_cl49 _ _) rfl ⟨Nat.le_of_ble_eq_true rfl, Nat.le_of_ble_eq_true rfl, hk.1, hk.2⟩ rfl (Nat.le_of_ble_eq_true rfl) dL_law_2256 (fun S2 h2 => ?_)
  exact xt_icmp_eq (tgt := 2308) A.1 dL_law_2259 (by decide) (fun _ => kk S2 (hM2 S2 h2)) (fun c9 => absurd rfl c9)
set_option maxRecDepth 20000 in
set_option maxHeartbeats 2000000 in
theorem la_restoreSnapshot (A : xt_LA E cx b L xs) (hi : i + 6 ≤ L) (hk : k + 1 ≤ 601024 ∧ n + 6 ≤ 7293034) (hI : xt_Inv S) (kk : ∀ S9, xt_Inv S9 → xt_X E cx Z (k + 1) (n + 6) 2308 (xt_lv9 E b i none none none) [] S9) : xt_X E cx Z k n 2264 (xt_lv9 E b i none none none) [] S := by
  obtain ⟨q, P1, hq, hW, hM⟩ := st_restoreSnapshot (E := E) (l := cx.2.1) A.2.2.2.2.2 hI 
  refine xt_aload_n A.1 dL_law_2264 rfl ?_
  refine xt_aload_n A.1 dL_law_2265 rfl ?_
  refine xt_callSH A.1 mh_L_restoreSnapshot lkL_231 hW rfl ⟨Nat.le_of_ble_eq_true rfl, Nat.le_of_ble_eq_true rfl, hk.1, hk.2⟩ rfl (Nat.le_of_ble_eq_true rfl) dL_law_2266 (fun v S1 h1 => ?_)
  obtain ⟨rfl, h1⟩ := h1
  show xt_X E cx Z (k + 1) (n + 6) 2269 _ [.int (nI q)] S1
  refine xt_istore A.1 dL_law_2269 (Nat.le_of_ble_eq_true rfl) rfl rfl ?_
  obtain ⟨v2, P2, hM1, hM2⟩ := hM S1 h1
  show xt_X E cx Z (k + 1) (n + 6) 2271 (xt_lv9 E b i (some (.int (nI q))) none none) [] S1
  refine xt_aload_n A.1 dL_law_2271 rfl ?_
  refine xt_cVq A.1 mv_X6_restoreSnapshot lkL_233 hM1 rfl (by decide) (xt_cl49 _ _) rfl ⟨Nat.le_of_ble_eq_true rfl, Nat.le_of_ble_eq_true rfl, hk.1, hk.2⟩ rfl (Nat.le_of_ble_eq_true rfl) dL_law_2272 (fun v S2 h2 => ?_)
  obtain ⟨rfl, h2⟩ := h2
  obtain ⟨e1, e2, e3⟩ := hM2 S2 h2
  exact xt_tail A hq e1 e2 dL_law_2275 dL_law_2277 dL_law_2278 dL_law_2281 dL_law_2283 dL_law_2288 dL_law_2290 dL_law_2293 dL_law_2294 dL_law_2295 dL_law_2296 dL_law_2298 dL_law_2299 dL_law_2300 dL_law_2305 (by decide) hk (kk S2 e3)
end XR4
