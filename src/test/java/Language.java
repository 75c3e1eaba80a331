import java.io.IOException;
import java.nio.file.Files;
import java.nio.file.Path;
import java.util.List;
import java.util.regex.Matcher;
import java.util.regex.Pattern;

/** What LANGUAGE.md rules out, as far as a search of the text, without its comments, can find it. */
public final class Language {
    private static final String[] OUT = {
        "\\b(throw|throws|try|catch|finally|synchronized|assert|yield|package)\\b",
        "->", "::", "\\bExact\\b|Exact\\(", "\\bSystem\\.(?!arraycopy)", "\\b(Object|Random|Thread|Set|Map|HashMap)\\b",
        "\\bpublic (?!final class HowBigTank|static final int NONE|HowBigTank\\(\\)|(int|long) \\w+\\()",
        "\\bprotected\\b", "^import (?!java\\.util\\.Arrays;)", "\\bwhile \\(true", "for \\(;;", "\\b(equals|hashCode|toString)\\b"};
    private static final List<String> FACE = List.of("letters", "blank", "fault", "house", "year", "tell", "rule", "as",
        "houseTold", "change", "rain", "run", "month", "never", "let", "cheapest", "share", "sure", "mean", "wise", "hedge",
        "read", "leaks", "image", "restore", "count", "digest");
    private static final List<String> LIBRARY = List.of("System.arraycopy", "Arrays.copyOf", "Arrays.copyOfRange",
        "Arrays.fill", "Math.min", "Math.max", "Math.abs", "Math.floorDiv", "Math.floorMod");
    private static int wrong = 0;

    private static void complain(String what) {
        wrong++;
        System.out.println(what);
    }

    private static void seekWhatIsOut(String text) {
        for (String out : OUT) {
            Matcher m = Pattern.compile(out, Pattern.MULTILINE).matcher(text);
            if (m.find()) complain("ruled out: " + out + " at: " + text.substring(m.start(), Math.min(text.length(), m.start() + 60)));
        }
    }

    /** What is named behind a class: the file's own, or a function that LANGUAGE.md lists. */
    private static void seekLibrary(String text) {
        Matcher m = Pattern.compile("\\b([A-Z]\\w*)\\.(\\w+)").matcher(text);
        while (m.find()) {
            boolean own = text.contains("class " + m.group(1) + " {");
            if (!own && !LIBRARY.contains(m.group())) complain("not in the list of the library: " + m.group());
        }
    }

    private static void seekMethods(String text) {
        String[] lines = text.split("\n");
        Pattern head = Pattern.compile("^ +(?:(public|private) )?(?:static )?(?:int|long|boolean|void|int\\[\\]) (\\w+)\\((.*)\\) \\{$");
        int inFace = 0;
        for (int i = 0; i < lines.length; i++) {
            Matcher m = head.matcher(lines[i]);
            if (!m.find()) continue;
            boolean isPublic = "public".equals(m.group(1));
            if (FACE.contains(m.group(2)) != isPublic) complain("a name of the face, or one that is not: " + lines[i]);
            if (isPublic) inFace++;
            if (m.group(3).split(",").length > 7) complain("more than seven parameters: " + lines[i]);
            String end = lines[i].replaceAll("\\S.*", "") + "}";
            int j = i;
            while (j < lines.length - 1 && !lines[j].equals(end)) j++;
            if (j - i > 60) complain("more than sixty lines: " + lines[i]);
        }
        if (inFace != FACE.size()) complain(inFace + " methods of the face");
        int classes = text.split("\\bclass \\w+ \\{").length - 1;
        if (classes > 12) complain(classes + " classes");
    }

    public static void main(String[] args) throws IOException {
        String text = Files.readString(Path.of("src/main/java/HowBigTank.java"));
        for (char c : text.toCharArray()) {
            if (c > 126) complain("a sign above 126");
        }
        text = text.replaceAll("(?s)/\\*.*?\\*/", "").replaceAll("//.*", "");
        seekWhatIsOut(text);
        seekLibrary(text.replaceAll("(?m)^import .*$", ""));
        seekMethods(text);
        System.out.println(wrong == 0 ? "the language is kept to, as far as is seen" : wrong + " breaks of the language");
        if (wrong != 0) System.exit(1);
    }
}
