import java.io.IOException;
import java.nio.file.Files;
import java.nio.file.Paths;

/** A few rules of ../shared/LANGUAGE.md that can be seen from the source's words alone. */
public final class LanguageTest {
    private static final Checks C = new Checks();
    private static final int MOST_METHOD_LINES = 60;
    private static final int MOST_CLASSES = 12;

    private static final String[] RULED_OUT = {
        "import ", "package ", "->", "::", "try ", "catch ", "finally", "synchronized", "assert ",
        "static {", "Exact(", "Double", "Float", "Math.abs(", "System.", "Thread", "Random",
        "instanceof", "while (true)", "for (;;)", "\" +", "+ \"", "Object", "String",
        "ArrayIndexOutOfBounds", "NullPointer", "ClassCast", "NegativeArraySize", "ArrayStore",
    };

    public static void main(String[] args) throws IOException {
        String source = new String(Files.readAllBytes(Paths.get("src/main/java/RareFaults.java")));
        String code = source.replaceAll("(?s)/\\*.*?\\*/", "").replaceAll("//[^\n]*", "");
        for (String words : RULED_OUT) {
            C.due("the source's use of " + words, false, code.contains(words));
        }
        C.due("signs above 127", true, source.chars().allMatch(sign -> sign < 128));
        C.due("static fields are final", false,
                code.matches("(?s).*\\n *(private |public )?static (int|long|double|boolean|char)"
                        + "(\\[\\])? \\w+( =[^\\n]*)?;.*"));
        C.due("classes", true, code.split(" class ", -1).length - 1 <= MOST_CLASSES);
        dueShortMethods(code);
        C.end();
    }

    /** A method begins with a line that ends with ") {" or "Exception {" at the depth of members. */
    private static void dueShortMethods(String code) {
        int begun = -1;
        String[] lines = code.split("\n");
        for (int line = 0; line < lines.length; line++) {
            boolean isMember = lines[line].matches(" {4}( {4})?[a-z][^=]*(\\)|Exception) \\{");
            if (isMember && !lines[line].contains("for (") && !lines[line].contains("if (")) {
                begun = line;
            } else if (begun >= 0 && lines[line].matches(" {4}( {4})?\\}")) {
                C.due("lines of the method at " + lines[begun], true,
                        line - begun <= MOST_METHOD_LINES);
                begun = -1;
            }
        }
    }
}
