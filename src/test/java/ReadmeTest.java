import java.io.IOException;
import java.lang.reflect.InvocationTargetException;
import java.lang.reflect.Method;
import java.nio.file.Files;
import java.nio.file.Path;
import java.util.ArrayList;
import java.util.HashMap;
import java.util.List;
import java.util.Map;

/** Makes the calls of README.md, as they stand there, and holds them to the answers behind them. */
public final class ReadmeTest {
    private static final Due due = new Due("readme");
    private static final Map<String, Method> FACE = TwinTest.faces(SmithyBench.class);

    private final Map<String, Integer> variables = new HashMap<>();
    private SmithyBench bench;
    private int lines;
    private String text = "";
    private int at;

    public static void main(String[] arguments) throws IOException {
        List<String> page = Files.readAllLines(Path.of("README.md"));
        ReadmeTest test = new ReadmeTest();
        due.part("calls", () -> test.readPage(page));
        due.part("how many", () -> due.is("lines of code are " + (test.lines < 30 ? "too few: " + test.lines : "enough"), test.lines < 30 ? 0 : 1, 1));
        due.part("reasons", () -> readReasons(page));
        due.end();
    }

    private void readPage(List<String> page) {
        boolean isCode = false;
        for (String line : page) {
            if (line.startsWith("```")) isCode = line.equals("```java");
            else if (isCode && !line.isBlank()) read(line);
        }
    }

    private void read(String line) {
        lines++;
        if (line.equals("SmithyBench bench = new SmithyBench();")) {
            bench = new SmithyBench();
            return;
        }
        String[] halves = line.split("; *// ");
        text = halves[0];
        at = 0;
        String variable = takes("int ") ? word() : "";
        if (!variable.isEmpty() && !takes(" = ")) throw new IllegalStateException("not a line: " + line);
        due.same(line, answer(variable), halves.length > 1 ? meant(halves[1]) : "a line without an answer");
        if (at != text.length()) throw new IllegalStateException("not a line: " + line);
    }

    private static String meant(String answer) {
        return answer.matches("[A-Z_]+") ? String.valueOf(constant(answer)) : answer;
    }

    private String answer(String variable) {
        try {
            int answer = expression();
            if (!variable.isEmpty()) variables.put(variable, answer);
            return String.valueOf(answer);
        } catch (Thrown e) {
            return e.name;
        }
    }

    private static final class Thrown extends RuntimeException {
        private static final long serialVersionUID = 1;
        final String name;
        Thrown(String name) { this.name = name; }
    }

    private boolean takes(String what) {
        if (!text.startsWith(what, at)) return false;
        at += what.length();
        return true;
    }

    private String word() {
        int from = at;
        while (at < text.length() && (Character.isLetterOrDigit(text.charAt(at)) || "-_".indexOf(text.charAt(at)) >= 0)) at++;
        return text.substring(from, at);
    }

    /** Truth is told as 1, untruth as 0. */
    private int expression() {
        if (takes("bench.")) return call(word());
        if (takes("SmithyBench.")) return constant(word());
        String word = word();
        if (word.matches("-?[0-9]+")) return Integer.parseInt(word);
        if (word.equals("true") || word.equals("false")) return word.equals("true") ? 1 : 0;
        if (!variables.containsKey(word)) throw new IllegalStateException("no such variable in " + text);
        return variables.get(word);
    }

    private int call(String name) {
        List<Integer> given = new ArrayList<>();
        if (!takes("(")) throw new IllegalStateException("not a call: " + text);
        while (!takes(")")) {
            if (at >= text.length()) throw new IllegalStateException("not a call: " + text);
            given.add(expression());
            takes(", ");
        }
        Class<?>[] types = FACE.get(name).getParameterTypes();
        Object[] arguments = new Object[given.size()];
        for (int i = 0; i < arguments.length; i++) arguments[i] = types[i] == boolean.class ? (Object) (given.get(i) == 1) : given.get(i);
        try {
            return (Integer) FACE.get(name).invoke(bench, arguments);
        } catch (InvocationTargetException e) {
            throw new Thrown(e.getCause().getClass().getSimpleName());
        } catch (IllegalAccessException e) {
            throw new IllegalStateException(e);
        }
    }

    private static int constant(String name) {
        try {
            return SmithyBench.class.getField(name).getInt(null);
        } catch (ReflectiveOperationException e) {
            throw new IllegalStateException("no such constant: " + name);
        }
    }

    /** The table of reasons names each of them once, with its number. */
    private static void readReasons(List<String> page) {
        int seen = 0;
        for (String line : page) {
            String[] cells = line.split(" *\\| *");
            if (cells.length != 4 || !cells[1].startsWith("`")) continue;
            due.is(cells[1], constant(cells[1].replace("`", "")), Integer.parseInt(cells[2]));
            seen |= 1 << -Integer.parseInt(cells[2]);
        }
        due.is("the reasons of the table", seen, 0xFFE);
    }
}
