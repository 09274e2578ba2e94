import java.util.ArrayList;
import java.util.HashMap;
import java.util.HashSet;
import java.util.List;
import java.util.Map;
import java.util.NoSuchElementException;
import java.util.Set;
import java.util.TreeMap;
import java.util.TreeSet;
import java.util.regex.Matcher;
import java.util.regex.Pattern;

/** A second, slow reading of the document, written apart from the class, to compare its answers with. */
final class Oracle {
    private static final class Read {
        int fails = -1;
        int place;
        final List<Character> kinds = new ArrayList<>();
        final List<Integer> starts = new ArrayList<>();
        final List<Integer> sizes = new ArrayList<>();
        final Map<Integer, Integer> registers = new HashMap<>();
        final Set<String> shown = new HashSet<>();
    }

    private static final class Item {
        char sign;
        int number;
        int register;
        int textAt;
        String text;
        List<Item> within = new ArrayList<>();
    }

    private static final class Failed extends Exception {
        private static final long serialVersionUID = 1;
        final int place;

        Failed(int place) {
            this.place = place;
        }
    }

    private static final class Description {
        String text;
        boolean isPossible = true;
        Map<Integer, List<Integer>> sources = new TreeMap<>();
    }

    private final List<List<Integer>> samples = new ArrayList<>();
    private final List<Boolean> asides = new ArrayList<>();
    private final List<int[]> claims = new ArrayList<>();
    private final List<Description> descriptions = new ArrayList<>();
    private final List<List<int[]>> sessions = List.of(
            new ArrayList<>(), new ArrayList<>(), new ArrayList<>(), new ArrayList<>());
    private String buffer = "";
    private int limit = 600;

    private List<Integer> rowOf(int sample) {
        if (sample < 0 || sample >= samples.size()) {
            throw new IndexOutOfBoundsException();
        }
        return samples.get(sample);
    }

    private void inUse(int sample) {
        rowOf(sample);
        if (asides.get(sample)) {
            throw new UnsupportedOperationException();
        }
    }

    private static void argument(boolean isGood) {
        if (!isGood) {
            throw new IllegalArgumentException();
        }
    }

    private static void state(boolean isGood) {
        if (!isGood) {
            throw new IllegalStateException();
        }
    }

    private static void element(boolean isThere) {
        if (!isThere) {
            throw new NoSuchElementException();
        }
    }

    int sample() {
        state(samples.size() < 10);
        samples.add(new ArrayList<>());
        asides.add(false);
        return samples.size() - 1;
    }

    int append(int sample, int value) {
        List<Integer> row = rowOf(sample);
        argument(0 <= value && value <= 255);
        state(row.size() < 40);
        row.add(value);
        return row.size();
    }

    int byteAt(int sample, int place) {
        List<Integer> row = rowOf(sample);
        element(place >= 0 && place < row.size());
        return row.get(place);
    }

    boolean setAside(int sample, boolean isAside) {
        rowOf(sample);
        return asides.set(sample, isAside);
    }

    int setLimit(int wanted) {
        argument(1 <= wanted && wanted <= 1000);
        int before = limit;
        limit = wanted;
        return before;
    }

    private static int edits(List<?> a, List<?> b, int[][] known) {
        if (a.isEmpty() || b.isEmpty()) {
            return a.size() + b.size();
        }
        if (known[a.size()][b.size()] > 0) {
            return known[a.size()][b.size()] - 1;
        }
        List<?> shortA = a.subList(1, a.size());
        List<?> shortB = b.subList(1, b.size());
        int least = a.get(0).equals(b.get(0)) ? edits(shortA, shortB, known)
                : 1 + Math.min(edits(shortA, shortB, known), Math.min(edits(shortA, b, known), edits(a, shortB, known)));
        known[a.size()][b.size()] = least + 1;
        return least;
    }

    private static int distance(List<?> a, List<?> b) {
        return edits(a, b, new int[a.size() + 1][b.size() + 1]);
    }

    int likeness(int first, int second) {
        List<Integer> a = rowOf(first);
        List<Integer> b = rowOf(second);
        int longer = Math.max(a.size(), b.size());
        return longer == 0 ? 1000 : 1000 - 1000 * distance(a, b) / longer;
    }

    private TreeSet<Integer> classAround(int sample) {
        TreeSet<Integer> members = new TreeSet<>(Set.of(sample));
        List<Integer> open = new ArrayList<>(members);
        while (!open.isEmpty()) {
            int one = open.remove(0);
            for (int other = 0; other < samples.size(); other++) {
                if (!asides.get(other) && likeness(one, other) >= limit && members.add(other)) {
                    open.add(other);
                }
            }
        }
        return members;
    }

    int classOf(int sample) {
        inUse(sample);
        return classAround(sample).first();
    }

    boolean isOutlier(int sample) {
        inUse(sample);
        return classAround(sample).size() == 1 && asides.indexOf(false) != asides.lastIndexOf(false);
    }

    long word(int sample, int place, int size, boolean isBig) {
        List<Integer> row = rowOf(sample);
        argument(size == 2 || size == 4);
        element(place >= 0 && (long) place + size <= row.size());
        long number = 0;
        for (int step = 0; step < size; step++) {
            int power = isBig ? size - 1 - step : step;
            number += (long) row.get(place + step) << 8 * power;
        }
        return number;
    }

    /** All ways to align, tried from the ends on; the first one of several with the greatest score stays. */
    private static final class Ways {
        final List<Integer> centre;
        final List<Integer> other;
        int best = Integer.MIN_VALUE;
        String bestWay = "";

        Ways(List<Integer> centre, List<Integer> other) {
            this.centre = centre;
            this.other = other;
        }

        void tryAll(int i, int j, int score, String way) {
            if (i == 0 && j == 0) {
                if (score > best) {
                    best = score;
                    bestWay = way;
                }
                return;
            }
            if (i > 0 && j > 0) {
                tryAll(i - 1, j - 1, score + (centre.get(i - 1).equals(other.get(j - 1)) ? 2 : -1), way + 'b');
            }
            if (i > 0) {
                tryAll(i - 1, j, score - 2, way + 'o');
            }
            if (j > 0) {
                tryAll(i, j - 1, score - 2, way + 'c');
            }
        }

        void tryKnown() {
            Map<Integer, Integer> known = new HashMap<>();
            int i = centre.size();
            int j = other.size();
            best = greatest(i, j, known);
            StringBuilder way = new StringBuilder();
            while (i > 0 || j > 0) {
                int here = greatest(i, j, known);
                if (i > 0 && j > 0 && greatest(i - 1, j - 1, known) + pair(i, j) == here) {
                    way.append('b');
                    i--;
                    j--;
                } else if (i > 0 && greatest(i - 1, j, known) - 2 == here) {
                    way.append('o');
                    i--;
                } else {
                    way.append('c');
                    j--;
                }
            }
            bestWay = way.toString();
        }

        int pair(int i, int j) {
            return centre.get(i - 1).equals(other.get(j - 1)) ? 2 : -1;
        }

        int greatest(int i, int j, Map<Integer, Integer> known) {
            if (i == 0 || j == 0) {
                return -2 * (i + j);
            }
            Integer before = known.get(i * 100 + j);
            if (before != null) {
                return before;
            }
            int score = greatest(i - 1, j - 1, known) + pair(i, j);
            score = Math.max(score, greatest(i - 1, j, known) - 2);
            score = Math.max(score, greatest(i, j - 1, known) - 2);
            known.put(i * 100 + j, score);
            return score;
        }
    }

    private static Ways ways(List<Integer> centre, List<Integer> other) {
        Ways ways = new Ways(centre, other);
        if (centre.size() + other.size() <= 11) {
            ways.tryAll(centre.size(), other.size(), 0, "");
        } else {
            ways.tryKnown();
        }
        return ways;
    }

    int centre(int sample) {
        inUse(sample);
        TreeSet<Integer> members = classAround(sample);
        int best = -1;
        int greatest = Integer.MIN_VALUE;
        for (int member : members) {
            int sum = 0;
            for (int other : members) {
                sum += other == member ? 0 : ways(samples.get(member), samples.get(other)).best;
            }
            if (sum > greatest) {
                greatest = sum;
                best = member;
            }
        }
        return best;
    }

    /** The cells of each sample of the class. */
    private TreeMap<Integer, List<Integer>> grid(int sample) {
        inUse(sample);
        List<Integer> centre = samples.get(centre(sample));
        TreeMap<Integer, List<List<Integer>>> ahead = new TreeMap<>();
        TreeMap<Integer, List<Integer>> beside = new TreeMap<>();
        int[] widths = new int[centre.size() + 1];
        for (int member : classAround(sample)) {
            List<List<Integer>> gaps = new ArrayList<>();
            List<Integer> at = new ArrayList<>();
            gaps.add(new ArrayList<>());
            String way = new StringBuilder(ways(centre, samples.get(member)).bestWay).reverse().toString();
            int next = 0;
            for (char step : way.toCharArray()) {
                if (step == 'c') {
                    gaps.get(gaps.size() - 1).add(samples.get(member).get(next++));
                } else {
                    at.add(step == 'o' ? -1 : samples.get(member).get(next++));
                    gaps.add(new ArrayList<>());
                }
            }
            for (int place = 0; place <= centre.size(); place++) {
                widths[place] = Math.max(widths[place], gaps.get(place).size());
            }
            ahead.put(member, gaps);
            beside.put(member, at);
        }
        TreeMap<Integer, List<Integer>> cells = new TreeMap<>();
        for (int member : ahead.keySet()) {
            List<Integer> row = new ArrayList<>();
            for (int place = 0; place <= centre.size(); place++) {
                List<Integer> gap = ahead.get(member).get(place);
                for (int step = 0; step < widths[place]; step++) {
                    row.add(step < gap.size() ? gap.get(step) : -1);
                }
                if (place < centre.size()) {
                    row.add(beside.get(member).get(place));
                }
            }
            cells.put(member, row);
        }
        return cells;
    }

    int columns(int sample) {
        return grid(sample).get(sample).size();
    }

    int cell(int sample, int column) {
        List<Integer> row = grid(sample).get(sample);
        element(column >= 0 && column < row.size());
        return row.get(column);
    }

    char judge(int sample, int column) {
        TreeMap<Integer, List<Integer>> cells = grid(sample);
        element(column >= 0 && column < cells.get(sample).size());
        List<Integer> bytes = new ArrayList<>();
        for (List<Integer> row : cells.values()) {
            if (row.get(column) >= 0) {
                bytes.add(row.get(column));
            }
        }
        Set<Integer> different = new HashSet<>(bytes);
        if (different.size() == 1) {
            return 'c';
        }
        Set<Integer> steps = new HashSet<>();
        for (int index = 1; index < bytes.size(); index++) {
            steps.add(Math.floorMod(bytes.get(index) - bytes.get(index - 1), 256));
        }
        if (bytes.size() >= 3 && steps.size() == 1) {
            return 'n';
        }
        if (different.size() <= bytes.size() / 2) {
            return 'e';
        }
        return bytes.stream().allMatch(one -> one >= 32 && one <= 126) ? 't' : 'r';
    }

    private static int numberAt(List<Integer> row, int place, int form) {
        int size = form == 1 ? 1 : 2;
        if (place + size > row.size()) {
            return -1;
        }
        if (form == 1) {
            return row.get(place);
        }
        int first = row.get(place);
        int second = row.get(place + 1);
        return form == 2 ? first * 256 + second : second * 256 + first;
    }

    private static boolean areVaried(List<List<Integer>> rows, int place) {
        Set<Integer> bytes = new HashSet<>();
        for (List<Integer> row : rows) {
            if (place >= row.size()) {
                return false;
            }
            bytes.add(row.get(place));
        }
        return bytes.size() > 1;
    }

    private static boolean holds(List<List<Integer>> rows, char kind, int place, int form, int rest) {
        Set<Integer> lengths = new HashSet<>();
        rows.forEach(row -> lengths.add(row.size()));
        for (List<Integer> row : rows) {
            if (place >= row.size()) {
                return false;
            }
            int at = row.get(place);
            int number = kind == 'l' ? numberAt(row, place, form) : 0;
            if (kind == 'l' && (lengths.size() == 1 || number < 0 || number != row.size() - rest)) {
                return false;
            }
            if (kind == 'r' && (!areVaried(rows, place) || row.size() != 1 + place + form * at + rest)) {
                return false;
            }
            if (kind == 'o' && (!areVaried(rows, place) || at >= row.size() || row.get(at) != form)) {
                return false;
            }
            if (kind == 'k') {
                for (List<Integer> other : rows) {
                    boolean isAlike = place < other.size() && other.get(place) == at;
                    if (lengths.size() == 1 || isAlike != (row.size() == other.size())) {
                        return false;
                    }
                }
            }
            if (kind == '+' || kind == '^' || kind == '-') {
                List<Integer> summed = row.subList(place, row.size() - 1);
                int due = 0;
                for (int one : summed) {
                    due = kind == '^' ? due ^ one : kind == '+' ? (due + one) % 256 : (due + 256 - one) % 256;
                }
                if (summed.isEmpty() || row.get(row.size() - 1) != due) {
                    return false;
                }
            }
        }
        return true;
    }

    private List<int[]> relationsOf(int sample) {
        inUse(sample);
        List<List<Integer>> rows = new ArrayList<>();
        classAround(sample).forEach(member -> rows.add(samples.get(member)));
        List<int[]> found = new ArrayList<>();
        if (rows.size() < 2) {
            return found;
        }
        for (char kind : "l+^-kro".toCharArray()) {
            int leastForm = kind == 'l' ? 1 : kind == 'r' ? 2 : 0;
            int mostForm = kind == 'l' ? 3 : kind == 'r' ? 8 : kind == 'o' ? 255 : 0;
            int mostRest = kind == 'l' ? 40 : kind == 'r' ? 3 : 0;
            for (int place = 0; place < 40; place++) {
                for (int form = leastForm; form <= mostForm; form++) {
                    for (int rest = 0; rest <= mostRest; rest++) {
                        if (holds(rows, kind, place, form, rest)) {
                            found.add(new int[] {kind, place, form, rest});
                        }
                    }
                }
            }
        }
        return found;
    }

    int relations(int sample) {
        return relationsOf(sample).size();
    }

    char kindOf(int sample, int index) {
        List<int[]> found = relationsOf(sample);
        element(index >= 0 && index < found.size());
        return (char) found.get(index)[0];
    }

    int detail(int sample, int index, char what) {
        inUse(sample);
        argument("pfr".indexOf(what) >= 0);
        List<int[]> found = relationsOf(sample);
        element(index >= 0 && index < found.size());
        return found.get(index)[1 + "pfr".indexOf(what)];
    }

    int claim(int sample, int index) {
        List<int[]> found = relationsOf(sample);
        element(index >= 0 && index < found.size());
        state(claims.size() < 20);
        int[] one = found.get(index);
        claims.add(new int[] {sample, one[0], one[1], one[2], one[3]});
        return claims.size() - 1;
    }

    boolean stands(int claim) {
        if (claim < 0 || claim >= claims.size()) {
            throw new IndexOutOfBoundsException();
        }
        int[] one = claims.get(claim);
        if (asides.get(one[0])) {
            return false;
        }
        for (int[] found : relationsOf(one[0])) {
            if (found[0] == one[1] && found[1] == one[2] && found[2] == one[3] && found[3] == one[4]) {
                return true;
            }
        }
        return false;
    }

    int rests(int claim) {
        return stands(claim) ? classAround(claims.get(claim)[0]).size() : 0;
    }

    int mask(int sample) {
        List<Integer> row = rowOf(sample);
        for (int mask = 1; mask < 256; mask++) {
            boolean isGood = !row.isEmpty();
            for (int one : row) {
                isGood &= (one ^ mask) >= 32 && (one ^ mask) <= 126;
            }
            if (isGood) {
                return mask;
            }
        }
        throw new NoSuchElementException();
    }

    int unpacked(int sample) {
        List<Integer> row = rowOf(sample);
        element(row.size() % 2 == 0);
        int sum = 0;
        for (int place = 0; place < row.size(); place += 2) {
            element(row.get(place) != 0);
            sum += row.get(place);
        }
        return sum;
    }

    int variety(int sample) {
        List<Integer> row = rowOf(sample);
        return row.isEmpty() ? 0 : 1000 * new HashSet<>(row).size() / row.size();
    }

    int type(char sign) {
        argument("0123456789cbnNvzsxhri()=".indexOf(sign) >= 0);
        state(buffer.length() < 60);
        buffer += sign;
        return buffer.length();
    }

    int clear() {
        int before = buffer.length();
        buffer = "";
        return before;
    }

    private static final Pattern TOKEN = Pattern.compile(
            "c(\\d{1,3})|b(\\d{1,3})|[nNzsxh]|v(\\d)|r(\\d)\\(|i(\\d)=(\\d{1,3})\\(|\\)");

    private static boolean isDescription(String text) {
        Matcher tokens = TOKEN.matcher(text);
        int at = 0;
        int registers = 0;
        int depth = 0;
        String last = "(";
        while (at < text.length()) {
            if (!tokens.find(at) || tokens.start() != at) {
                return false;
            }
            String token = tokens.group();
            for (int group : new int[] {1, 6}) {
                if (tokens.group(group) != null && Integer.parseInt(tokens.group(group)) > 255) {
                    return false;
                }
            }
            if (tokens.group(2) != null) {
                int count = Integer.parseInt(tokens.group(2));
                if (count < 1 || count > 40) {
                    return false;
                }
            }
            for (int group : new int[] {3, 4, 5}) {
                if (tokens.group(group) != null && Integer.parseInt(tokens.group(group)) >= registers) {
                    return false;
                }
            }
            registers += token.equals("n") || token.equals("N") ? 1 : 0;
            if (token.endsWith("(")) {
                depth++;
            } else if (token.equals(")")) {
                if (last.endsWith("(") || depth == 0) {
                    return false;
                }
                depth--;
            }
            if (depth > 4) {
                return false;
            }
            last = token;
            at = tokens.end();
        }
        return depth == 0 && at > 0;
    }

    /** The items of a text that is a description, up to its end or the ) that closes them. */
    private static int parse(String text, int from, int[] registers, List<Item> into) {
        int at = from;
        while (at < text.length() && text.charAt(at) != ')') {
            Item item = new Item();
            item.sign = text.charAt(at);
            item.textAt = at;
            at++;
            if ("vri".indexOf(item.sign) >= 0) {
                item.register = text.charAt(at++) - '0';
            }
            if (item.sign == 'i') {
                at++;
            }
            if ("cbi".indexOf(item.sign) >= 0) {
                int end = at;
                while (end < text.length() && Character.isDigit(text.charAt(end))) {
                    end++;
                }
                item.number = Integer.parseInt(text.substring(at, end));
                at = end;
            }
            if ("nN".indexOf(item.sign) >= 0) {
                item.register = registers[0]++;
            }
            if ("ri".indexOf(item.sign) >= 0) {
                at = parse(text, at + 1, registers, item.within) + 1;
            }
            item.text = text.substring(item.textAt, at);
            into.add(item);
        }
        return at;
    }

    private static List<Item> itemsOf(String text) {
        List<Item> items = new ArrayList<>();
        parse(text, 0, new int[1], items);
        return items;
    }

    private Description descriptionAt(int description) {
        if (description < 0 || description >= descriptions.size()) {
            throw new IndexOutOfBoundsException();
        }
        return descriptions.get(description);
    }

    int describe() {
        argument(isDescription(buffer));
        state(descriptions.size() < 6);
        Description added = new Description();
        added.text = buffer;
        buffer = "";
        descriptions.add(added);
        return descriptions.size() - 1;
    }

    int edit(int description) {
        Description before = descriptionAt(description);
        argument(isDescription(buffer));
        Description edited = new Description();
        edited.text = buffer;
        buffer = "";
        descriptions.set(description, edited);
        return before.text.length();
    }

    private static String drafted(List<List<Integer>> rows, int end) {
        StringBuilder text = new StringBuilder();
        for (int place = 0; place < end; place++) {
            text.append(areVaried(rows, place) ? "h" : "c" + rows.get(0).get(place));
        }
        return text.toString();
    }

    int find(int sample) {
        inUse(sample);
        TreeSet<Integer> members = classAround(sample);
        List<List<Integer>> rows = new ArrayList<>();
        members.forEach(member -> rows.add(samples.get(member)));
        Set<Integer> lengths = new HashSet<>();
        rows.forEach(row -> lengths.add(row.size()));
        List<String> texts = new ArrayList<>();
        if (lengths.size() == 1 && !lengths.contains(0)) {
            texts.add(drafted(rows, rows.get(0).size()));
        }
        for (int[] one : relationsOf(sample)) {
            if (one[0] == 'l' && one[2] == 1) {
                String text = drafted(rows, one[1]) + "nv0";
                if (one[3] == one[1] + 1) {
                    texts.add(text);
                } else if (one[3] == one[1] + 2 && holds(rows, '+', 0, 0, 0)) {
                    texts.add(text + "s");
                } else if (one[3] == one[1] + 2 && holds(rows, '^', 0, 0, 0)) {
                    texts.add(text + "x");
                }
            }
        }
        if (rows.stream().allMatch(row -> row.indexOf(0) >= 0 && row.indexOf(0) == row.size() - 1)) {
            texts.add("z");
        }
        texts.removeIf(text -> text.length() > 60);
        element(!texts.isEmpty());
        state(descriptions.size() < 6);
        Description best = new Description();
        int least = Integer.MAX_VALUE;
        for (String text : texts) {
            if (costOf(text, rows) < least) {
                least = costOf(text, rows);
                best.text = text;
            }
        }
        members.forEach(member -> best.sources.put(member, new ArrayList<>(samples.get(member))));
        descriptions.add(best);
        return descriptions.size() - 1;
    }

    private static int costOf(String text, List<List<Integer>> rows) {
        int cost = 10 * text.length();
        for (List<Integer> row : rows) {
            Read read = readBy(text, row);
            if (read.fails >= 0) {
                cost += 1000;
            } else {
                for (int field = 0; field < read.kinds.size(); field++) {
                    cost += "csx".indexOf(read.kinds.get(field)) >= 0 ? 0 : 8 * read.sizes.get(field);
                }
            }
        }
        return cost;
    }

    char signAt(int description, int index) {
        String text = descriptionAt(description).text;
        element(index >= 0 && index < text.length());
        return text.charAt(index);
    }

    private static Read readBy(String text, List<Integer> row) {
        Read read = new Read();
        try {
            readItems(itemsOf(text), row, read);
            if (read.place < row.size()) {
                throw new Failed(read.place);
            }
        } catch (Failed failed) {
            read.fails = failed.place;
        }
        return read;
    }

    private static void readItems(List<Item> items, List<Integer> row, Read read) throws Failed {
        for (Item item : items) {
            int value = read.registers.getOrDefault(item.register, 0);
            if (item.sign == 'i') {
                read.shown.add(item.textAt + (value == item.number ? "yes" : "no"));
                if (value == item.number) {
                    readItems(item.within, row, read);
                }
            } else if (item.sign == 'r') {
                int times = 0;
                int before = -1;
                while (times < value && read.place != before) {
                    before = read.place;
                    times++;
                    readItems(item.within, row, read);
                }
                read.shown.add(item.textAt + (times == 0 ? "none" : times == 1 ? "once" : "more"));
            } else {
                readField(item, value, row, read);
            }
        }
    }

    private static void readField(Item item, int value, List<Integer> row, Read read) throws Failed {
        int from = read.place;
        int size = 1;
        if (item.sign == 'b') {
            size = item.number;
        } else if (item.sign == 'v') {
            size = value;
        } else if (item.sign == 'N') {
            size = 2;
        } else if (item.sign == 'z') {
            size = row.subList(from, row.size()).indexOf(0) + 1;
            size = size == 0 ? 1000 : size;
        }
        if (from + size > row.size()) {
            throw new Failed(row.size());
        }
        int sum = 0;
        int mixed = 0;
        for (int one : row.subList(0, from)) {
            sum = (sum + one) % 256;
            mixed ^= one;
        }
        if (item.sign == 'c' && row.get(from) != item.number || item.sign == 's' && row.get(from) != sum
                || item.sign == 'x' && row.get(from) != mixed) {
            throw new Failed(from);
        }
        if (item.sign == 'n') {
            read.registers.put(item.register, row.get(from));
        } else if (item.sign == 'N') {
            read.registers.put(item.register, row.get(from) * 256 + row.get(from + 1));
        }
        read.kinds.add(item.sign);
        read.starts.add(from);
        read.sizes.add(size);
        read.place = from + size;
    }

    private Read readOf(int description, int sample) {
        Description one = descriptionAt(description);
        return readBy(one.text, rowOf(sample));
    }

    int read(int description, int sample) {
        return readOf(description, sample).fails;
    }

    int fields(int description, int sample) {
        return readOf(description, sample).kinds.size();
    }

    int fieldAt(int description, int sample, int field) {
        Read read = readOf(description, sample);
        element(field >= 0 && field < read.starts.size());
        return read.starts.get(field);
    }

    int fieldSize(int description, int sample, int field) {
        Read read = readOf(description, sample);
        element(field >= 0 && field < read.sizes.size());
        return read.sizes.get(field);
    }

    private List<List<Integer>> rowsInUse() {
        List<List<Integer>> rows = new ArrayList<>();
        for (int sample = 0; sample < samples.size(); sample++) {
            if (!asides.get(sample)) {
                rows.add(samples.get(sample));
            }
        }
        return rows;
    }

    int cost(int description) {
        return costOf(descriptionAt(description).text, rowsInUse());
    }

    int best() {
        element(!descriptions.isEmpty());
        int best = 0;
        for (int other = 1; other < descriptions.size(); other++) {
            best = cost(other) < cost(best) ? other : best;
        }
        return best;
    }

    int differ(int description, int other) {
        List<String> first = new ArrayList<>();
        List<String> second = new ArrayList<>();
        itemsOf(descriptionAt(description).text).forEach(item -> first.add(item.text));
        itemsOf(descriptionAt(other).text).forEach(item -> second.add(item.text));
        return distance(first, second);
    }

    int mutant(int description, int sample, int place, int value) {
        Read read = readOf(description, sample);
        argument(value >= 0 && value <= 255);
        boolean isFree = false;
        for (int field = 0; field < read.kinds.size() && read.fails < 0; field++) {
            int end = read.starts.get(field) + read.sizes.get(field);
            if (place >= read.starts.get(field) && place < end) {
                isFree = "bvh".indexOf(read.kinds.get(field)) >= 0
                        || read.kinds.get(field) == 'z' && place != end - 1 && value != 0;
            }
        }
        if (!isFree) {
            throw new UnsupportedOperationException();
        }
        state(samples.size() < 10);
        List<Integer> made = new ArrayList<>(samples.get(sample));
        made.set(place, value);
        for (int field = 0; field < read.kinds.size(); field++) {
            int at = read.starts.get(field);
            if (read.kinds.get(field) == 's') {
                made.set(at, made.subList(0, at).stream().mapToInt(one -> one).sum() % 256);
            } else if (read.kinds.get(field) == 'x') {
                made.set(at, made.subList(0, at).stream().reduce(0, (a, b) -> a ^ b));
            }
        }
        samples.add(made);
        asides.add(false);
        return samples.size() - 1;
    }

    int cover(int description) {
        String text = descriptionAt(description).text;
        List<Set<String>> shown = new ArrayList<>();
        Set<String> all = new HashSet<>();
        for (List<Integer> row : rowsInUse()) {
            Read read = readBy(text, row);
            if (read.fails < 0) {
                shown.add(read.shown);
                all.addAll(read.shown);
            }
        }
        return leastCover(shown, 0, new HashSet<>(), all);
    }

    private static int leastCover(List<Set<String>> shown, int from, Set<String> covered, Set<String> all) {
        if (covered.containsAll(all)) {
            return 0;
        }
        if (from == shown.size()) {
            return 1000;
        }
        Set<String> with = new HashSet<>(covered);
        with.addAll(shown.get(from));
        return Math.min(leastCover(shown, from + 1, covered, all), 1 + leastCover(shown, from + 1, with, all));
    }

    int answer(int sample, boolean isAccepted) {
        rowOf(sample);
        int count = 0;
        for (int description = 0; description < descriptions.size(); description++) {
            Description one = descriptions.get(description);
            one.isPossible &= (read(description, sample) == -1) == isAccepted;
            count += one.isPossible ? 1 : 0;
        }
        return count;
    }

    boolean isPossible(int description) {
        return descriptionAt(description).isPossible;
    }

    int question() {
        int best = -1;
        int most = 0;
        for (int sample = 0; sample < samples.size(); sample++) {
            int reading = 0;
            int others = 0;
            for (int description = 0; description < descriptions.size(); description++) {
                if (isPossible(description) && read(description, sample) < 0) {
                    reading++;
                } else if (isPossible(description)) {
                    others++;
                }
            }
            if (!asides.get(sample) && Math.min(reading, others) > most) {
                most = Math.min(reading, others);
                best = sample;
            }
        }
        element(best >= 0);
        return best;
    }

    private List<int[]> sessionAt(int session) {
        if (session < 0 || session > 3) {
            throw new IndexOutOfBoundsException();
        }
        return sessions.get(session);
    }

    int send(int session, int side, int sample) {
        List<int[]> messages = sessionAt(session);
        rowOf(sample);
        argument(side == 0 || side == 1);
        state(messages.size() < 12);
        messages.add(new int[] {side, sample});
        return messages.size();
    }

    boolean isEcho(int place, int echo) {
        argument(place >= 0 && place < 40 && echo >= 0 && echo < 40);
        int pairs = 0;
        for (List<int[]> messages : sessions) {
            for (int index = 0; index + 1 < messages.size(); index++) {
                if (messages.get(index)[0] == 0 && messages.get(index + 1)[0] == 1) {
                    List<Integer> first = samples.get(messages.get(index)[1]);
                    List<Integer> second = samples.get(messages.get(index + 1)[1]);
                    pairs++;
                    if (place >= first.size() || echo >= second.size() || !first.get(place).equals(second.get(echo))) {
                        return false;
                    }
                }
            }
        }
        return pairs >= 2;
    }

    boolean isCounter(int place) {
        argument(place >= 0 && place < 40);
        int steps = 0;
        for (List<int[]> messages : sessions) {
            List<Integer> bytes = new ArrayList<>();
            for (int[] message : messages) {
                if (message[0] == 0) {
                    List<Integer> row = samples.get(message[1]);
                    if (place >= row.size()) {
                        return false;
                    }
                    bytes.add(row.get(place));
                }
            }
            for (int index = 1; index < bytes.size(); index++) {
                steps++;
                if (bytes.get(index) != (bytes.get(index - 1) + 1) % 256) {
                    return false;
                }
            }
        }
        return steps >= 2;
    }

    private String symbol(int[] message) {
        List<Integer> row = samples.get(message[1]);
        return message[0] + ":" + (row.isEmpty() ? -1 : row.get(0));
    }

    private List<String> stateOf(List<int[]> messages, int depth) {
        List<String> symbols = new ArrayList<>();
        messages.forEach(message -> symbols.add(symbol(message)));
        return symbols.subList(Math.max(0, symbols.size() - depth), symbols.size());
    }

    int states(int depth) {
        argument(depth >= 1 && depth <= 3);
        Set<List<String>> states = new HashSet<>();
        for (List<int[]> messages : sessions) {
            for (int end = 0; end <= messages.size(); end++) {
                states.add(stateOf(messages.subList(0, end), depth));
            }
        }
        return states.size();
    }

    boolean canFollow(int session, int depth, int side, int value) {
        List<int[]> wanted = sessionAt(session);
        argument(depth >= 1 && depth <= 3 && (side == 0 || side == 1) && value >= -1 && value <= 255);
        for (List<int[]> messages : sessions) {
            for (int end = 0; end < messages.size(); end++) {
                if (stateOf(messages.subList(0, end), depth).equals(stateOf(wanted, depth))
                        && symbol(messages.get(end)).equals(side + ":" + value)) {
                    return true;
                }
            }
        }
        return false;
    }

    long checksum() {
        long sum = 0;
        for (List<Integer> row : samples) {
            for (int one : row) {
                sum = sum * 31 + one;
            }
        }
        return sum;
    }

    float readShare(int description) {
        descriptionAt(description);
        if (samples.isEmpty()) {
            throw new ArithmeticException();
        }
        int count = 0;
        for (int sample = 0; sample < samples.size(); sample++) {
            count += read(description, sample) == -1 ? 1 : 0;
        }
        return (float) count / (float) samples.size();
    }

    double meanLength() {
        if (samples.isEmpty()) {
            throw new ArithmeticException();
        }
        int sum = 0;
        for (List<Integer> row : samples) {
            sum += row.size();
        }
        return (double) sum / (double) samples.size();
    }

    boolean isSound() {
        for (int sample = 0; sample < samples.size(); sample++) {
            if (!asides.get(sample)) {
                List<Integer> back = new ArrayList<>(grid(sample).get(sample));
                back.removeIf(one -> one < 0);
                if (!back.equals(samples.get(sample))) {
                    return false;
                }
            }
        }
        for (Description one : descriptions) {
            for (Map.Entry<Integer, List<Integer>> source : one.sources.entrySet()) {
                List<Integer> now = samples.get(source.getKey());
                if (source.getValue().equals(now) && readBy(one.text, now).fails >= 0) {
                    return false;
                }
            }
        }
        return true;
    }
}
