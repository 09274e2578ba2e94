import java.lang.reflect.InvocationTargetException;
import java.lang.reflect.Method;
import java.util.ArrayList;
import java.util.Arrays;
import java.util.HashMap;
import java.util.List;
import java.util.Map;
import java.util.Random;
import java.util.Set;

/** Runs of up to 512 drawn calls, on the class and on the Oracle: every answer and every exception is the same. */
public final class RandomRunsTest {
    private static final Map<String, Method> FACE = methodsOf(Formatseer.class);
    private static final Map<String, Method> DUE = methodsOf(Oracle.class);
    /** Calls of which each answer is counted, to see that the runs come to all of them. */
    private static final Set<String> TOLD = Set.of("judge", "kindOf", "cover", "isEcho", "isCounter", "canFollow",
            "stands", "isOutlier", "differ", "states", "best", "question", "isSound", "read", "signAt");
    private static final String[] SHORT = {"h", "z", "nv0", "nv0s", "nv0x", "b3", "nr0(h)", "ni0=2(hh)", "hhhh", "Nb1",
        "nr1("};
    private static final int[] ODD = {Integer.MIN_VALUE, -2, -1, 256, 1000, Integer.MAX_VALUE};

    private final Random random;
    private final Formatseer seer = new Formatseer();
    private final Oracle oracle = new Oracle();
    private final List<String> calls = new ArrayList<>();
    private int sampleCount;
    private int descriptionCount;
    private String wrong = "";

    private RandomRunsTest(long seed) {
        random = new Random(seed);
    }

    public static void main(String[] args) throws Exception {
        int runs = args.length > 0 ? Integer.parseInt(args[0]) : 300;
        int first = args.length > 1 ? Integer.parseInt(args[1]) : 1;
        Map<String, Integer> seen = new HashMap<>();
        for (int seed = first; seed < first + runs; seed++) {
            RandomRunsTest run = new RandomRunsTest(seed);
            run.go(seen);
            if (!run.wrong.isEmpty()) {
                System.out.println("run " + seed + ": " + run.wrong);
                System.out.println(String.join("\n", run.calls));
                System.exit(1);
            }
        }
        for (String name : FACE.keySet()) {
            if (!seen.containsKey(name + " answers")) {
                System.out.println("no run had an answer of " + name);
                System.exit(1);
            }
        }
        if (args.length > 0) {
            seen.keySet().stream().sorted().forEach(key -> System.out.println(key + " " + seen.get(key)));
        }
    }

    private static Map<String, Method> methodsOf(Class<?> type) {
        Map<String, Method> methods = new HashMap<>();
        for (Method method : type.getDeclaredMethods()) {
            if (!java.lang.reflect.Modifier.isPrivate(method.getModifiers()) && !method.isSynthetic()) {
                method.setAccessible(true);
                methods.put(method.getName(), method);
            }
        }
        return methods;
    }

    private static String answerOf(Method method, Object target, Object[] arguments) throws Exception {
        try {
            return String.valueOf(method.invoke(target, arguments));
        } catch (InvocationTargetException thrown) {
            return "throws " + thrown.getCause().getClass().getName();
        }
    }

    private String call(Map<String, Integer> seen, String name, Object... arguments) throws Exception {
        if (!wrong.isEmpty() || calls.size() >= 512) {
            return "";
        }
        String got = answerOf(FACE.get(name), seer, arguments);
        String due = answerOf(DUE.get(name), oracle, arguments);
        String shown = name + Arrays.toString(arguments);
        calls.add(shown + " = " + got);
        seen.merge(name + (due.startsWith("throws") ? " " + due : " answers"), 1, Integer::sum);
        if (TOLD.contains(name)) {
            seen.merge(name + " = " + due, 1, Integer::sum);
        }
        if (!got.equals(due)) {
            wrong = shown + " answered " + got + ", due is " + due;
        }
        if (name.equals("sample") || name.equals("mutant")) {
            sampleCount += due.startsWith("throws") ? 0 : 1;
        }
        if (name.equals("describe") || name.equals("find")) {
            descriptionCount += due.startsWith("throws") ? 0 : 1;
        }
        return due;
    }

    private int draw(int end) {
        return random.nextInt(Math.max(1, end));
    }

    private boolean luck(int percent) {
        return random.nextInt(100) < percent;
    }

    /** Mostly a number below the end, seldom another one. */
    private int near(int end) {
        if (luck(2)) {
            return ODD[draw(ODD.length)];
        }
        return luck(3) ? draw(end + 3) - 1 : draw(end);
    }

    private void go(Map<String, Integer> seen) throws Exception {
        if (luck(70)) {
            call(seen, "setLimit", 100 + draw(700));
        }
        switch (draw(6)) {
            case 0:
                goFamily(seen);
                break;
            case 3:
                goOrders(seen);
                break;
            case 1:
                goDescription(seen);
                break;
            case 2:
                goTalk(seen);
                break;
            default:
                break;
        }
        for (int turn = 0; turn < 200 && calls.size() < 512 && wrong.isEmpty(); turn++) {
            switch (draw(12)) {
                case 0: case 1:
                    addFamily(seen);
                    break;
                case 2: case 3:
                    addDescription(seen, draw(4));
                    break;
                case 4:
                    talk(seen);
                    break;
                case 5:
                    change(seen);
                    break;
                default:
                    for (int step = 0; step < 6; step++) {
                        ask(seen);
                    }
                    break;
            }
        }
    }

    /** One family, of which all is asked, claimed, changed and asked again. */
    private void goFamily(Map<String, Integer> seen) throws Exception {
        addFamily(seen);
        for (int turn = 0; turn < 8 && sampleCount > 0; turn++) {
            int sample = draw(sampleCount);
            String found = call(seen, "relations", sample);
            for (int index = 0; !found.startsWith("throws") && !found.isEmpty()
                    && index <= Integer.parseInt(found) && index < 8; index++) {
                call(seen, "kindOf", sample, index);
                call(seen, "detail", sample, index, "pfr".charAt(draw(3)));
                if (luck(40)) {
                    call(seen, "claim", sample, index);
                }
            }
            for (int claim = 0; claim < 6; claim++) {
                call(seen, luck(50) ? "stands" : "rests", claim);
            }
            for (int column = 0; column < 8; column++) {
                call(seen, luck(50) ? "judge" : "cell", sample, column);
            }
            String made = call(seen, "find", sample);
            if (made.length() == 1) {
                for (int index = 0; index < 10; index++) {
                    call(seen, "signAt", Integer.valueOf(made), index);
                }
                call(seen, "mutant", Integer.valueOf(made), sample, draw(8), draw(256));
            }
            change(seen);
        }
    }

    /** One description, and samples that it reads. */
    private void goDescription(Map<String, Integer> seen) throws Exception {
        addDescription(seen, 9);
        for (int turn = 0; turn < 12 && sampleCount > 0 && descriptionCount > 0; turn++) {
            int sample = draw(sampleCount);
            call(seen, "read", 0, sample);
            String count = call(seen, "fields", 0, sample);
            int end = count.isEmpty() || count.startsWith("throws") ? 0 : Integer.parseInt(count);
            for (int step = 0; step < 3; step++) {
                call(seen, "fieldAt", 0, sample, end - draw(4));
                call(seen, "fieldSize", 0, sample, end - draw(4));
                call(seen, "mutant", 0, sample, draw(12), draw(256));
            }
            call(seen, "setAside", draw(sampleCount), luck(30));
            call(seen, "cover", 0);
            call(seen, "cost", 0);
        }
    }

    /** Sessions of a few symbols, so that states come again. */
    private void goTalk(Map<String, Integer> seen) throws Exception {
        int symbols = 1 + draw(4);
        for (int sample = 0; sample < symbols; sample++) {
            addSample(seen, luck(20) ? List.of() : List.of(draw(2), 5, sample, draw(2)));
        }
        for (int step = 0; step < 30; step++) {
            call(seen, "send", draw(4), luck(90) ? step % 2 : draw(2), draw(symbols));
            call(seen, "isEcho", draw(4), draw(4));
            call(seen, "isCounter", draw(3));
            call(seen, "states", 1 + draw(3));
            call(seen, "canFollow", draw(4), 1 + draw(3), draw(2), draw(3) - 1);
        }
    }

    /** Few samples and short texts, which change between finding, claiming, answering and sending. */
    private void goOrders(Map<String, Integer> seen) throws Exception {
        call(seen, "setLimit", 1 + draw(400));
        for (int turn = 0; turn < 3 && sampleCount < 3; turn++) {
            addFamily(seen);
        }
        for (int turn = 0; turn < 60; turn++) {
            int sample = draw(sampleCount);
            int description = near(descriptionCount);
            switch (draw(10)) {
                case 0: call(seen, "setAside", sample, luck(50)); break;
                case 1: call(seen, "append", sample, draw(9)); break;
                case 2: call(seen, "find", sample); break;
                case 3: call(seen, "claim", sample, draw(2)); break;
                case 4: call(seen, "answer", sample, luck(70)); break;
                case 5: call(seen, "send", draw(3), draw(2), sample); break;
                case 6: editTo(seen, description, SHORT[draw(SHORT.length)]); break;
                case 7: call(seen, "mutant", description, sample, draw(5), draw(9)); break;
                case 8: call(seen, "setLimit", 1 + draw(600)); break;
                default: call(seen, "setAside", sample, false); break;
            }
            askAgain(seen);
        }
    }

    private void editTo(Map<String, Integer> seen, int description, String text) throws Exception {
        call(seen, "clear");
        for (char sign : text.toCharArray()) {
            call(seen, "type", sign);
        }
        call(seen, "edit", description);
    }

    /** What may be another answer than it was before the last change. */
    private void askAgain(Map<String, Integer> seen) throws Exception {
        int sample = draw(sampleCount);
        int description = draw(descriptionCount);
        switch (draw(9)) {
            case 0: call(seen, "stands", draw(4)); call(seen, "rests", draw(4)); break;
            case 1: call(seen, "isPossible", description); call(seen, "question"); break;
            case 2: call(seen, "isSound"); call(seen, "best"); break;
            case 3: call(seen, "cost", description); call(seen, "cover", description); break;
            case 4: call(seen, "states", 1 + draw(3)); break;
            case 5: call(seen, "canFollow", draw(3), 1 + draw(3), draw(2), draw(9)); break;
            case 6: call(seen, "isEcho", draw(3), draw(3)); call(seen, "isCounter", draw(3)); break;
            case 7: call(seen, "relations", sample); call(seen, "judge", sample, draw(6)); break;
            default: call(seen, "read", description, sample); call(seen, "classOf", sample); break;
        }
    }

    private void addSample(Map<String, Integer> seen, List<Integer> bytes) throws Exception {
        String number = call(seen, "sample");
        if (!number.isEmpty() && !number.startsWith("throws")) {
            for (int one : bytes) {
                call(seen, "append", Integer.valueOf(number), one);
            }
        }
    }

    /** Samples that have something in common. */
    private void addFamily(Map<String, Integer> seen) throws Exception {
        int kind = draw(10);
        int head = draw(4);
        int alphabet = luck(50) ? 3 : 256;
        int fixed = 1 + draw(6);
        int width = 2 + draw(7);
        int rest = draw(4);
        int count = 1 + draw(5);
        for (int member = 0; member < count; member++) {
            List<Integer> bytes = new ArrayList<>();
            for (int step = 0; step < head; step++) {
                bytes.add(luck(80) ? 7 + step : draw(256));
            }
            int size = kind < 3 ? fixed : draw(8);
            if (kind == 3 || kind == 4 || kind == 5) {
                bytes.add(size);
                addBytes(bytes, size, alphabet);
                if (kind >= 4) {
                    addSum(bytes, kind == 4 ? 's' : luck(50) ? 'x' : 'm');
                }
            } else if (kind == 6) {
                int times = draw(4);
                bytes.add(times);
                addBytes(bytes, times * width + rest, alphabet);
            } else if (kind == 7) {
                for (int step = 0; step < size; step++) {
                    bytes.add(1 + draw(alphabet - 1));
                }
                bytes.add(0);
            } else if (kind == 8) {
                addBytes(bytes, 2 * (size / 2), alphabet);
                bytes.add(0, bytes.size() + 1 + (luck(50) ? 1 : 0));
                if (luck(50)) {
                    bytes.add(0, 0);
                }
            } else {
                addBytes(bytes, luck(5) ? 40 - bytes.size() : luck(5) ? 12 + draw(20) : size, alphabet);
                if (kind == 2) {
                    bytes.set(draw(bytes.size()), (member * 3 + 250) % 256);
                }
            }
            addSample(seen, bytes);
        }
    }

    private void addBytes(List<Integer> bytes, int size, int alphabet) {
        for (int step = 0; step < size; step++) {
            bytes.add(draw(alphabet));
        }
    }

    private static void addSum(List<Integer> bytes, char kind) {
        int sum = 0;
        int mixed = 0;
        for (int one : bytes) {
            sum += one;
            mixed ^= one;
        }
        bytes.add(kind == 'x' ? mixed : kind == 's' ? sum % 256 : -sum & 255);
    }

    private void addDescription(Map<String, Integer> seen, int samples) throws Exception {
        if (luck(90)) {
            call(seen, "clear");
        }
        if (luck(20)) {
            call(seen, "find", near(sampleCount));
            return;
        }
        int[] registers = new int[1];
        StringBuilder text = new StringBuilder();
        addItems(text, 0, registers, 1 + draw(6));
        if (luck(10) && text.length() > 0) {
            text.setCharAt(draw(text.length()), "0123456789cbnNvzsxhri()=q".charAt(draw(25)));
        }
        for (int at = 0; at < text.length(); at++) {
            call(seen, "type", text.charAt(at));
        }
        if (luck(20)) {
            call(seen, "edit", near(descriptionCount));
        } else {
            call(seen, "describe");
        }
        for (int turn = samples; turn > 0; turn--) {
            List<Integer> bytes = new ArrayList<>();
            try {
                produce(text.toString(), 0, text.length(), new HashMap<>(), bytes);
            } catch (RuntimeException notWellFormed) {
                bytes.add(9);
            }
            addSample(seen, bytes);
        }
    }

    private void addItems(StringBuilder text, int depth, int[] registers, int count) {
        for (int item = 0; item < count && text.length() < 70; item++) {
            int kind = draw(14);
            if (registers[0] == 0 && kind >= 9) {
                kind = luck(60) ? 2 : draw(8);
            }
            if (kind == 0 || kind == 1) {
                text.append(kind == 0 ? 'c' : 'b').append(luck(3) ? draw(300) : luck(5) ? "007" : String.valueOf(1 + draw(3)));
            } else if (kind == 2 || kind == 3) {
                text.append(kind == 2 ? 'n' : 'N');
                registers[0]++;
            } else if (kind < 9) {
                text.append("zsxhh".charAt(kind - 4));
            } else if (kind == 9) {
                text.append('v').append(draw(registers[0]));
            } else if (depth < 4 || luck(5)) {
                int register = luck(1) ? 9 : draw(registers[0]);
                text.append(kind < 12 ? 'r' : 'i').append(register);
                if (kind >= 12) {
                    text.append('=').append(draw(3));
                }
                text.append('(');
                addItems(text, depth + 1, registers, luck(1) ? 0 : 1 + draw(3));
                text.append(')');
            }
        }
    }

    private static int closing(String text, int from) {
        int depth = 1;
        int at = from;
        while (depth > 0) {
            depth += text.charAt(at) == '(' ? 1 : text.charAt(at) == ')' ? -1 : 0;
            at++;
        }
        return at - 1;
    }

    /** Bytes that the description reads, mostly; registers are known by their places in the text. */
    private void produce(String text, int from, int end, Map<Integer, Integer> registers, List<Integer> bytes) {
        int at = from;
        while (at < end && bytes.size() < 41) {
            char sign = text.charAt(at++);
            int digits = at;
            while (digits < end && Character.isDigit(text.charAt(digits))) {
                digits++;
            }
            if (sign == 'c') {
                bytes.add(Integer.parseInt(text.substring(at, digits)) & 255);
            } else if (sign == 'b') {
                addBytes(bytes, Math.min(40, Integer.parseInt(text.substring(at, digits))), 5);
            } else if (sign == 'n' || sign == 'N') {
                int number = draw(4);
                if (sign == 'N') {
                    bytes.add(luck(5) ? 1 : 0);
                }
                bytes.add(number);
                int index = (int) text.substring(0, at - 1).chars().filter(one -> one == 'n' || one == 'N').count();
                registers.put(index, number);
            } else if (sign == 'z') {
                for (int step = draw(4); step > 0; step--) {
                    bytes.add(1 + draw(5));
                }
                bytes.add(0);
            } else if (sign == 's' || sign == 'x') {
                addSum(bytes, sign);
            } else if (sign == 'h') {
                bytes.add(draw(5));
            } else {
                int value = registers.getOrDefault(text.charAt(at) - '0', 0);
                if (sign == 'v') {
                    addBytes(bytes, value, 5);
                } else {
                    int open = text.indexOf("(", at);
                    int close = closing(text, open + 1);
                    int times = sign == 'r' ? value
                            : value == Integer.parseInt(text.substring(at + 2, open)) ? 1 : 0;
                    int before = -1;
                    for (int time = 0; time < times && before != bytes.size(); time++) {
                        before = bytes.size();
                        produce(text, open + 1, close, registers, bytes);
                    }
                    digits = close + 1;
                }
            }
            at = digits;
        }
    }

    private void talk(Map<String, Integer> seen) throws Exception {
        int session = near(4);
        for (int step = draw(6); step > 0; step--) {
            call(seen, "send", session, luck(3) ? near(2) : step % 2, near(sampleCount));
        }
        if (luck(40)) {
            int place = draw(3);
            int first = draw(256);
            List<Integer> bytes = new ArrayList<>(List.of(1, 2, 3, 4));
            for (int step = 0; step < 3; step++) {
                bytes.set(place, first + step & 255);
                addSample(seen, bytes);
                call(seen, "send", session, 0, sampleCount - 1);
                call(seen, "send", session, 1, sampleCount - 1);
            }
            call(seen, "isCounter", place);
            call(seen, "isEcho", place, place);
        }
    }

    private void change(Map<String, Integer> seen) throws Exception {
        switch (draw(5)) {
            case 0:
                call(seen, "setAside", near(sampleCount), luck(60));
                break;
            case 1:
                call(seen, "append", near(sampleCount), near(256));
                break;
            case 2:
                call(seen, "setLimit", near(1001));
                break;
            case 3:
                call(seen, "answer", near(sampleCount), luck(60));
                break;
            default:
                call(seen, "setLimit", 200 + draw(500));
                break;
        }
    }

    private void ask(Map<String, Integer> seen) throws Exception {
        int sample = near(sampleCount);
        int description = near(descriptionCount);
        switch (draw(30)) {
            case 0: call(seen, "byteAt", sample, near(12)); break;
            case 1: call(seen, "likeness", sample, near(sampleCount)); break;
            case 2: call(seen, "classOf", sample); call(seen, "isOutlier", sample); break;
            case 3: call(seen, "word", sample, near(10), luck(80) ? 2 + 2 * draw(2) : near(5), luck(50)); break;
            case 4: call(seen, "centre", sample); call(seen, "columns", sample); break;
            case 5: case 6: call(seen, "cell", sample, near(10)); break;
            case 7: case 8: call(seen, "judge", sample, near(10)); break;
            case 9: call(seen, "relations", sample); break;
            case 10: call(seen, "kindOf", sample, near(5)); break;
            case 11: call(seen, "detail", sample, near(5), "pfrpfrpfrq".charAt(draw(10))); break;
            case 12: call(seen, "claim", sample, near(5)); break;
            case 13: call(seen, "stands", near(5)); call(seen, "rests", near(5)); break;
            case 14: call(seen, "mask", sample); break;
            case 15: call(seen, "unpacked", sample); call(seen, "variety", sample); break;
            case 16: call(seen, "find", sample); break;
            case 17: call(seen, "signAt", description, near(12)); break;
            case 18: case 19: call(seen, "read", description, sample); call(seen, "fields", description, sample); break;
            case 20: call(seen, "fieldAt", description, sample, near(6)); break;
            case 21: call(seen, "fieldSize", description, sample, near(6)); break;
            case 22: call(seen, "cost", description); call(seen, "best"); break;
            case 23: call(seen, "differ", description, near(descriptionCount)); break;
            case 24: call(seen, "mutant", description, sample, near(8), near(256)); break;
            case 25: call(seen, "cover", description); break;
            case 26: call(seen, "isPossible", description); call(seen, "question"); break;
            case 27: call(seen, "states", 1 + draw(3)); call(seen, "canFollow", near(4), near(4), near(2), near(9)); break;
            case 28: call(seen, "isEcho", near(4), near(4)); call(seen, "isCounter", near(4)); break;
            default: call(seen, "checksum"); call(seen, "readShare", description);
                call(seen, "meanLength"); call(seen, "isSound"); break;
        }
    }
}
