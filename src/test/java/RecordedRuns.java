import java.io.IOException;
import java.nio.file.Files;
import java.nio.file.Path;
import java.util.ArrayList;
import java.util.List;
import java.util.NoSuchElementException;

/**
 * Runs of calls that were recorded with the objects, arrays and proxies of a JavaScript engine in place of the class.
 * A row is: the call = its answer | how many OBJECTS there are, what was thrown latest | the FUNCTIONS that were called.
 * S stands for a TypeError, A for a RangeError, N for what a FUNCTION threw.
 */
public final class RecordedRuns {
    /** An object is used for at most 512 calls, and what one row asks for takes some fifty at most. */
    private static final int ENOUGH_CALLS = 450;

    private static ObjectRules x;
    private static int calls;

    public static void main(String[] args) throws IOException {
        int wrong = 0;
        int rows = 0;
        List<String> run = new ArrayList<>();
        for (String row : Files.readAllLines(Path.of("src/test/data/recorded-runs.txt"))) {
            rows++;
            if (row.equals("new")) {
                wrong += isWrong(run) ? 1 : 0;
                run.clear();
            } else {
                run.add(row);
            }
        }
        wrong += isWrong(run) ? 1 : 0;
        if (wrong > 0 || rows < 1000) {
            System.out.println(wrong + " runs are not as recorded, of " + rows + " rows");
            System.exit(1);
        }
    }

    /** Goes through the run as often as is needed to ask for all that its rows tell; a wrong row ends it. */
    private static boolean isWrong(List<String> run) {
        int from = 0;
        while (from < run.size()) {
            x = new ObjectRules();
            calls = 0;
            for (int i = 0; i < from; i++) {
                answer(callOf(run.get(i)).split(" "));
            }
            while (from < run.size() && calls < ENOUGH_CALLS) {
                String row = run.get(from);
                String got = shown(callOf(row));
                if (!got.equals(row)) {
                    System.out.println("row " + from + " of a run: answered " + got + ", due is " + row);
                    return true;
                }
                from++;
            }
        }
        return false;
    }

    private static String callOf(String row) {
        return row.substring(0, row.indexOf(" = "));
    }

    private static String shown(String call) {
        String answer = answer(call.split(" "));
        StringBuilder s = new StringBuilder(call).append(" = ").append(answer);
        s.append(" | ").append(x.count(0)).append(' ').append(x.count(3)).append(" | ");
        int n = Math.min(x.count(1), 50);
        for (int i = 0; i < n; i++) {
            s.append(i > 0 ? "," : "").append(x.call(i));
        }
        calls += 3 + n;
        return s.toString().trim();
    }

    private static String answer(String[] words) {
        calls++;
        try {
            return String.valueOf(run(words));
        } catch (IllegalArgumentException e) {
            return "I";
        } catch (IllegalStateException e) {
            return "S";
        } catch (ArithmeticException e) {
            return "A";
        } catch (NoSuchElementException e) {
            return "N";
        } catch (UnsupportedOperationException e) {
            return "F";
        }
    }

    private static int run(String[] words) {
        int[] n = new int[words.length];
        for (int i = 1; i < words.length; i++) {
            n[i] = Integer.parseInt(words[i]);
        }
        switch (words[0]) {
            case "make": return x.make(n[1]);
            case "array": return x.array(n[1]);
            case "function": return x.function(n[1], n[2], n[3]);
            case "proxy": return x.proxy(n[1], n[2]);
            case "revoke": return truth(x.revoke(n[1]));
            case "get": return x.get(n[1], n[2], n[3], n[4] == 1);
            case "set": return truth(x.set(n[1], n[2], n[3], n[4], n[5] == 1));
            case "has": return truth(x.has(n[1], n[2], n[3] == 1));
            case "remove": return truth(x.remove(n[1], n[2]));
            case "define": return truth(x.define(n[1], n[2], n[3], n[4], n[5]));
            case "about": return x.about(n[1], n[2], n[3]);
            case "keys": return x.keys(n[1], n[2] == 1);
            case "parent": return x.parent(n[1]);
            case "setParent": return truth(x.setParent(n[1], n[2]));
            case "open": return truth(x.open(n[1]));
            case "shut": return truth(x.shut(n[1]));
            case "level": return truth(x.level(n[1], n[2] == 1, n[3] == 1));
            case "assign": return x.assign(n[1], n[2]);
            default: throw new AssertionError(words[0]);
        }
    }

    private static int truth(boolean b) {
        return b ? 1 : 0;
    }
}
