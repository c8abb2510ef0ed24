import java.nio.file.Files;
import java.nio.file.Path;
import java.util.Set;
import java.util.TreeSet;
import java.util.regex.Matcher;
import java.util.regex.Pattern;

/** What can be seen of LANGUAGE.md's rules in the source alone; run at the project's root. */
public final class LanguageTest {
    private static final Due D = new Due();

    public static void main(String[] args) throws Exception {
        String source = Files.readString(Path.of("src/main/java/GirthReports.java"));
        String code = source.replaceAll("(?s)/\\*.*?\\*/", "").replaceAll("//[^\n]*", "");
        String[] never = {
            "->", "::", "\\bpackage\\b", "\\bfinally\\b", "\\bsynchronized\\b", "\\bassert\\b", "\\bcatch\\b",
            "\\btry\\b", "\\bthrows?\\b", "Exact\\(", "\\bSystem\\.(?!arraycopy)", "\\bThread\\b", "\\bRandom\\b",
            "\\bdouble\\b", "\\bfloat\\b", "\\bhashCode\\b", "\\btoString\\b", "\\binterface\\b", "\\bstatic\\s*\\{",
            "\\bObject\\b", "\\bHashMap\\b", "\\bString\\.(format|valueOf)"};
        for (String word : never) {
            D.holds("no " + word, !Pattern.compile(word).matcher(code).find());
        }
        Set<String> imports = new TreeSet<>();
        Matcher m = Pattern.compile("import ([^;]+);").matcher(code);
        while (m.find()) {
            imports.add(m.group(1));
        }
        D.holds("imports: " + imports, imports.equals(Set.of("java.util.Arrays")));
        D.holds("signs of 1 to 127 alone", source.chars().allMatch(c -> c >= 1 && c <= 127));
        rowsAreTested(code);
        D.end();
    }

    /** Rows are read and written in 'at' and 'put' alone, which test the index. */
    private static void rowsAreTested(String code) {
        Matcher m = Pattern.compile("\\b(?!int|new)\\w+\\[[^\\]]+\\]").matcher(code);
        int many = 0;
        while (m.find()) {
            if (!m.group().startsWith("int[")) {
                many++;
                D.holds("an index: " + m.group(), m.group().equals("row[i]"));
            }
        }
        D.due("indexes", 2, many);
    }
}
