import java.lang.reflect.Field;
import java.lang.reflect.Method;
import java.lang.reflect.Modifier;
import java.nio.file.Files;
import java.nio.file.Path;
import java.util.ArrayList;
import java.util.List;
import java.util.regex.Matcher;
import java.util.regex.Pattern;

/**
 * What can be told of ../shared/LANGUAGE.md without reading the class as a person would: words that it leaves out, and
 * what it counts. It reads the class's own file, and is run from the project's folder.
 */
final class LanguageTests {

    private static final Path SOURCE = Path.of("src/main/java/WaveletTiler.java");

    /** Each with the number of the rule that leaves it out. */
    private static final String[][] LEFT_OUT = {
        {"1", "\\b(package|protected)\\b"},
        {"2", "->|::"},
        {"3", "\\b(Object|Short|Byte|Character|Boolean|Double|Float|var)\\b"},
        {"4", "\\bimport (?!java\\.util\\.(NoSuchElementException|ArrayList|List|Arrays|Iterator);).*"},
        {"4", "\\w+Exact\\b|\\bSystem\\.(?!arraycopy\\b)\\w+|\\bString\\.\\w+"},
        {"5", "\\bstatic (?!final\\b)\\w+(\\[\\])? \\w+( =.*)?;|\\bstatic \\{"},
        {"6", "\\bcatch \\((?!(IllegalState|IllegalArgument|UnsupportedOperation|NoSuchElement)Exception ).*"},
        {"6", "\\b(finally|synchronized|assert|hashCode)\\b"},
        {"6", "\\bthrow (?!new \\w+\\((\"\")?\\);).*"},
        {"9", "\\bwhile \\(true\\)|\\bfor \\(;"},
        {"10", "\"\" \\+|\\+ \"\""},
        {"13", "\\b(Thread|Random|Runtime|Process|Date|Instant)\\b"},
    };

    public static void main(String[] args) throws Exception {
        String source = Files.readString(SOURCE);
        String code = withoutTexts(source);
        Check.due("signs of the class are 1 to 127", source.chars().allMatch(sign -> sign >= 1 && sign <= 127), true);
        for (String[] rule : LEFT_OUT) {
            Check.due("rule " + rule[0] + ", " + rule[1], found(code, rule[1]), List.of());
        }
        methodsAreShort(code);
        List<Class<?>> classes = new ArrayList<>(List.of(WaveletTiler.class.getDeclaredClasses()));
        classes.add(WaveletTiler.class);
        Check.due("rule 11: classes", classes.size() <= 12, true);
        for (Class<?> each : classes) {
            fieldsAndParametersAreFew(each);
        }
        Check.end("LanguageTests");
    }

    /** What stands in comments and between quotes is no code. */
    private static String withoutTexts(String source) {
        return source.replaceAll("\"[^\"\\n]*\"", "\"\"").replaceAll("(?s)/\\*.*?\\*/", "").replaceAll("//[^\\n]*", "");
    }

    private static List<String> found(String code, String pattern) {
        List<String> found = new ArrayList<>();
        Matcher matcher = Pattern.compile(pattern).matcher(code);
        while (matcher.find()) {
            found.add(matcher.group());
        }
        return found;
    }

    /** Rule 11: some sixty lines, from a method's first line to the brace that stands below its beginning. */
    private static void methodsAreShort(String code) {
        Pattern method = Pattern.compile("(?m)^( +)(?:public|private) [^;{=]*\\([^;{=]*\\{\\n(?s:.*?)^\\1\\}\\n");
        Matcher matcher = method.matcher(code);
        int methods = 0;
        while (matcher.find()) {
            methods++;
            String first = matcher.group().substring(0, matcher.group().indexOf('\n')).strip();
            Check.due("rule 11, lines of " + first, matcher.group().lines().count() <= 60, true);
        }
        Check.due("methods are found", methods > 31, true);
    }

    private static void fieldsAndParametersAreFew(Class<?> each) {
        int fields = 0;
        for (Field field : each.getDeclaredFields()) {
            fields += Modifier.isStatic(field.getModifiers()) ? 0 : 1;
        }
        Check.due("rule 11, fields of " + each, fields <= 20, true);
        for (Method method : each.getDeclaredMethods()) {
            Check.due("rule 11, parameters of " + method, method.getParameterCount() <= 7, true);
        }
    }
}
