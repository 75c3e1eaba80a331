import java.io.IOException;
import java.nio.file.Files;
import java.nio.file.Path;
import java.util.ArrayDeque;
import java.util.Deque;
import java.util.regex.Matcher;
import java.util.regex.Pattern;

/** Each call that README.md shows is done here, in its order, and must answer what stands behind it there. */
public final class Readme {
    private static final Pattern SHOWN = Pattern.compile("^x\\.(\\w+\\(.*?\\)); +// (-?\\d+)(:.*)?$");
    private static int wrong = 0;

    private static Deque<String> lines() throws IOException {
        Deque<String> lines = new ArrayDeque<>();
        for (String line : Files.readAllLines(Path.of("README.md"))) {
            if (line.startsWith("x.")) lines.add(line);
        }
        return lines;
    }

    private static void complain(String what) {
        wrong++;
        System.out.println(what);
    }

    private static long number(String s) {
        return Long.parseLong(s.endsWith("L") ? s.substring(0, s.length() - 1) : s);
    }

    private static long answer(HowBigTank x, String call) {
        int open = call.indexOf('(');
        String inside = call.substring(open + 1, call.length() - 1);
        String[] a = inside.isEmpty() ? new String[0] : inside.split(", ");
        long[] v = new long[4];
        for (int i = 0; i < a.length; i++) v[i] = a[i].equals("true") ? 1 : a[i].equals("false") ? 0 : number(a[i]);
        int b = (int) v[0], c = (int) v[1], d = (int) v[2], e = (int) v[3];
        return switch (call.substring(0, open) + " " + a.length) {
            case "letters 1" -> x.letters(v[0]);
            case "fault 1" -> x.fault(b);
            case "house 0" -> x.house();
            case "year 0" -> x.year();
            case "tell 0" -> x.tell();
            case "rule 2" -> x.rule(b, c);
            case "as 2" -> x.as(b, c);
            case "houseTold 1" -> x.houseTold(b);
            case "rain 2" -> x.rain(b, c);
            case "run 2" -> x.run(b, c);
            case "month 4" -> x.month(b, c, d, e);
            case "never 1" -> x.never(b);
            case "let 1" -> x.let(b);
            case "cheapest 3" -> x.cheapest(b, c, d);
            case "share 3" -> x.share(b, c, d);
            case "sure 2" -> x.sure(b, c);
            case "mean 2" -> x.mean(b, c);
            case "wise 4" -> x.wise(b, c, v[2] == 1, e);
            case "hedge 0" -> x.hedge();
            case "image 0" -> x.image();
            case "read 2" -> x.read(b, c);
            case "leaks 3" -> x.leaks(b, c, d);
            case "restore 0" -> x.restore();
            case "count 1" -> x.count(b);
            case "digest 0" -> x.digest();
            default -> throw new IllegalArgumentException("no such call: " + call);
        };
    }

    public static void main(String[] args) throws IOException {
        HowBigTank x = new HowBigTank();
        int calls = 0;
        for (String line : lines()) {
            Matcher m = SHOWN.matcher(line);
            if (!m.matches()) {
                complain("not to be read: " + line);
                continue;
            }
            long got = answer(x, m.group(1));
            if (got != number(m.group(2))) complain(line + " answered " + got);
            calls++;
        }
        if (calls < 50) complain("only " + calls + " calls are shown");
        System.out.println(wrong == 0 ? calls + " calls answer as README.md says" : wrong + " calls of README.md are not as it says");
        if (wrong != 0) System.exit(1);
    }
}
