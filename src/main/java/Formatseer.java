import java.util.NoSuchElementException;

/**
 * Unknown files and talks, read from examples alone: samples in classes, aligned and judged,
 * their relations, descriptions that read them, questions between descriptions, and talks.
 */
public final class Formatseer {
    private static final int MOST_SAMPLES = 10;
    private static final int MOST_BYTES = 40;
    private static final int MOST_CLAIMS = 20;
    private static final int MOST_SIGNS = 60;
    private static final int MOST_DESCRIPTIONS = 6;
    private static final int MOST_NESTED = 4;
    private static final int SESSIONS = 4;
    private static final int MOST_MESSAGES = 12;
    private static final int MOST_LIKE = 1000;
    private static final int SIGN_COST = 10;
    private static final int BYTE_COST = 8;
    private static final int UNREAD_COST = 1000;

    private final Comparer comparer = new Comparer();
    private final Samples samples = new Samples(comparer);
    private final Alignment alignment = new Alignment(samples, comparer);
    private final Members members = new Members(samples);
    private final Seeker seeker = new Seeker(members);
    private final Relations claimed = new Relations(MOST_CLAIMS);
    private final Row claimers = new Row(MOST_CLAIMS);
    private final Row buffer = new Row(MOST_SIGNS);
    private final Description[] descriptions = new Description[MOST_DESCRIPTIONS];
    private final Description trial = new Description();
    private final Reader reader = new Reader();
    private final Finder finder = new Finder(members, seeker);
    private final Talks talks = new Talks(samples);
    private final Row firstItems = new Row(MOST_SIGNS);
    private final Row otherItems = new Row(MOST_SIGNS);
    private final long[] shown = new long[MOST_SAMPLES];
    private int descriptionCount;

    public Formatseer() {
        for (int number = 0; number < descriptions.length; number++) {
            descriptions[number] = new Description();
        }
    }

    // ---- Samples and classes

    public int sample() throws IllegalStateException {
        if (samples.isFull()) {
            throw new IllegalStateException("there are 10 samples");
        }
        return samples.begin();
    }

    public int append(int sample, int value)
            throws IndexOutOfBoundsException, IllegalArgumentException, IllegalStateException {
        needSample(sample);
        needByte(value);
        if (samples.bytesOf(sample).isFull()) {
            throw new IllegalStateException("the sample has 40 bytes");
        }
        return samples.lengthen(sample, value);
    }

    public int byteAt(int sample, int place) throws IndexOutOfBoundsException, NoSuchElementException {
        needSample(sample);
        Row bytes = samples.bytesOf(sample);
        if (!bytes.has(place)) {
            throw new NoSuchElementException("no such place");
        }
        return bytes.at(place);
    }

    public boolean setAside(int sample, boolean isAside) throws IndexOutOfBoundsException {
        needSample(sample);
        return samples.putAside(sample, isAside);
    }

    public int setLimit(int limit) throws IllegalArgumentException {
        if (limit < 1 || limit > MOST_LIKE) {
            throw new IllegalArgumentException("the limit is out of range");
        }
        return samples.changeLimit(limit);
    }

    public int likeness(int first, int second) throws IndexOutOfBoundsException {
        needSample(first);
        needSample(second);
        return samples.likenessOf(first, second);
    }

    public int classOf(int sample) throws IndexOutOfBoundsException, UnsupportedOperationException {
        needClass(sample);
        return samples.leaderOf(sample);
    }

    public boolean isOutlier(int sample) throws IndexOutOfBoundsException, UnsupportedOperationException {
        needClass(sample);
        return samples.classSize(samples.leaderOf(sample)) == 1 && samples.countInUse() > 1;
    }

    public long word(int sample, int place, int size, boolean isBig)
            throws IndexOutOfBoundsException, IllegalArgumentException, NoSuchElementException {
        needSample(sample);
        if (size != 2 && size != 4) {
            throw new IllegalArgumentException("no such size");
        }
        Row bytes = samples.bytesOf(sample);
        if (place < 0 || place > bytes.size() - size) {
            throw new NoSuchElementException("not so many bytes from there");
        }
        long number = 0;
        for (int step = 0; step < size; step++) {
            number = number * 256 + bytes.at(isBig ? place + step : place + size - 1 - step);
        }
        return number;
    }

    // ---- Alignment and columns

    public int centre(int sample) throws IndexOutOfBoundsException, UnsupportedOperationException {
        layClassOf(sample);
        return alignment.middle();
    }

    public int columns(int sample) throws IndexOutOfBoundsException, UnsupportedOperationException {
        layClassOf(sample);
        return alignment.width();
    }

    public int cell(int sample, int column)
            throws IndexOutOfBoundsException, UnsupportedOperationException, NoSuchElementException {
        layClassOf(sample);
        needColumn(column);
        return alignment.at(sample, column);
    }

    public char judge(int sample, int column)
            throws IndexOutOfBoundsException, UnsupportedOperationException, NoSuchElementException {
        layClassOf(sample);
        needColumn(column);
        return alignment.verdict(column);
    }

    // ---- Relations, claims and packing

    public int relations(int sample) throws IndexOutOfBoundsException, UnsupportedOperationException {
        return relationsOf(sample).size();
    }

    public char kindOf(int sample, int index)
            throws IndexOutOfBoundsException, UnsupportedOperationException, NoSuchElementException {
        Relations found = relationsOf(sample);
        needRelation(found, index);
        return found.kindAt(index);
    }

    public int detail(int sample, int index, char what) throws IndexOutOfBoundsException,
            UnsupportedOperationException, IllegalArgumentException, NoSuchElementException {
        needClass(sample);
        if (what != 'p' && what != 'f' && what != 'r') {
            throw new IllegalArgumentException("no such number");
        }
        Relations found = relationsOf(sample);
        needRelation(found, index);
        if (what == 'p') {
            return found.placeAt(index);
        }
        return what == 'f' ? found.formAt(index) : found.restAt(index);
    }

    public int claim(int sample, int index) throws IndexOutOfBoundsException,
            UnsupportedOperationException, NoSuchElementException, IllegalStateException {
        Relations found = relationsOf(sample);
        needRelation(found, index);
        if (claimed.size() >= MOST_CLAIMS) {
            throw new IllegalStateException("there are 20 claims");
        }
        claimers.push(sample);
        claimed.push(found.kindAt(index), found.placeAt(index), found.formAt(index), found.restAt(index));
        return claimed.size() - 1;
    }

    public boolean stands(int claim) throws IndexOutOfBoundsException {
        needClaim(claim);
        return holdsNow(claim);
    }

    public int rests(int claim) throws IndexOutOfBoundsException {
        needClaim(claim);
        return holdsNow(claim) ? samples.classSize(samples.leaderOf(claimers.at(claim))) : 0;
    }

    public int mask(int sample) throws IndexOutOfBoundsException, NoSuchElementException {
        needSample(sample);
        Row bytes = samples.bytesOf(sample);
        for (int mask = 1; mask <= 255; mask++) {
            if (bytes.size() > 0 && bytes.isPlainBehind(mask)) {
                return mask;
            }
        }
        throw new NoSuchElementException("no mask");
    }

    public int unpacked(int sample) throws IndexOutOfBoundsException, NoSuchElementException {
        needSample(sample);
        int length = unpackedLength(samples.bytesOf(sample));
        if (length < 0) {
            throw new NoSuchElementException("it cannot be unpacked");
        }
        return length;
    }

    public int variety(int sample) throws IndexOutOfBoundsException {
        needSample(sample);
        Row bytes = samples.bytesOf(sample);
        int size = bytes.size();
        return size == 0 ? 0 : 1000 * bytes.countDifferent() / size;
    }

    // ---- Descriptions

    public int type(char sign) throws IllegalArgumentException, IllegalStateException {
        if (!isSign(sign)) {
            throw new IllegalArgumentException("no sign of descriptions");
        }
        if (buffer.isFull()) {
            throw new IllegalStateException("there are 60 signs");
        }
        buffer.push(sign);
        return buffer.size();
    }

    public int clear() {
        int count = buffer.size();
        buffer.empty();
        return count;
    }

    public int describe() throws IllegalArgumentException, IllegalStateException {
        needTextInBuffer();
        needRoomForDescription();
        int added = addDescription(buffer);
        buffer.empty();
        return added;
    }

    public int edit(int description) throws IndexOutOfBoundsException, IllegalArgumentException {
        needDescription(description);
        needTextInBuffer();
        Description edited = descriptionAt(description);
        int before = edited.text().size();
        edited.become(buffer);
        edited.setPossible(true);
        buffer.empty();
        return before;
    }

    public int find(int sample) throws IndexOutOfBoundsException, UnsupportedOperationException,
            NoSuchElementException, IllegalStateException {
        needClass(sample);
        int leader = samples.leaderOf(sample);
        if (!finder.finds(leader)) {
            throw new NoSuchElementException("no description can be made");
        }
        needRoomForDescription();
        int added = addDescription(finder.found());
        for (int source = 0; source < samples.size(); source++) {
            if (samples.isIn(source, leader)) {
                descriptionAt(added).addSource(source, samples.bytesOf(source).size());
            }
        }
        return added;
    }

    public char signAt(int description, int index) throws IndexOutOfBoundsException, NoSuchElementException {
        needDescription(description);
        Row text = descriptionAt(description).text();
        if (!text.has(index)) {
            throw new NoSuchElementException("no such sign");
        }
        return (char) text.at(index);
    }

    public int read(int description, int sample) throws IndexOutOfBoundsException {
        return readerBehind(description, sample).failure();
    }

    public int fields(int description, int sample) throws IndexOutOfBoundsException {
        return readerBehind(description, sample).fieldCount();
    }

    public int fieldAt(int description, int sample, int field)
            throws IndexOutOfBoundsException, NoSuchElementException {
        Reader behind = readerBehind(description, sample);
        needField(behind, field);
        return behind.startOf(field);
    }

    public int fieldSize(int description, int sample, int field)
            throws IndexOutOfBoundsException, NoSuchElementException {
        Reader behind = readerBehind(description, sample);
        needField(behind, field);
        return behind.sizeOf(field);
    }

    public int cost(int description) throws IndexOutOfBoundsException {
        needDescription(description);
        return costOf(description);
    }

    public int best() throws NoSuchElementException {
        if (descriptionCount == 0) {
            throw new NoSuchElementException("there are no descriptions");
        }
        int best = 0;
        int least = costOf(0);
        for (int number = 1; number < descriptionCount; number++) {
            int cost = costOf(number);
            if (cost < least) {
                best = number;
                least = cost;
            }
        }
        return best;
    }

    public int differ(int description, int other) throws IndexOutOfBoundsException {
        needDescription(description);
        needDescription(other);
        Description first = descriptionAt(description);
        Description second = descriptionAt(other);
        numberItems(first, first, firstItems);
        numberItems(second, first, otherItems);
        return comparer.distance(firstItems, otherItems);
    }

    public int mutant(int description, int sample, int place, int value) throws IndexOutOfBoundsException,
            IllegalArgumentException, UnsupportedOperationException, IllegalStateException {
        needDescription(description);
        needSample(sample);
        needByte(value);
        if (reader.scan(descriptionAt(description), samples.bytesOf(sample)) >= 0
                || !reader.mayChange(place, value)) {
            throw new UnsupportedOperationException("the byte cannot be another one");
        }
        if (samples.isFull()) {
            throw new IllegalStateException("there are 10 samples");
        }
        int made = samples.begin();
        Row bytes = samples.bytesOf(made);
        bytes.become(samples.bytesOf(sample));
        bytes.put(place, value);
        reader.mendSums(bytes);
        samples.settle(made);
        return made;
    }

    public int cover(int description) throws IndexOutOfBoundsException {
        needDescription(description);
        gatherShown(descriptionAt(description));
        long all = shownBy(-1);
        int least = MOST_SAMPLES;
        for (int chosen = 0; chosen < 1 << MOST_SAMPLES; chosen++) {
            if (Integer.bitCount(chosen) < least && shownBy(chosen) == all) {
                least = Integer.bitCount(chosen);
            }
        }
        return least;
    }

    // ---- Questions

    public int answer(int sample, boolean isAccepted) throws IndexOutOfBoundsException {
        needSample(sample);
        for (int number = 0; number < descriptionCount; number++) {
            if (doesRead(number, sample) != isAccepted) {
                descriptionAt(number).setPossible(false);
            }
        }
        return countPossible();
    }

    public boolean isPossible(int description) throws IndexOutOfBoundsException {
        needDescription(description);
        return descriptionAt(description).mayBe();
    }

    public int question() throws NoSuchElementException {
        int best = -1;
        int most = 0;
        for (int sample = 0; sample < samples.size(); sample++) {
            int parted = samples.isAside(sample) ? 0 : partedBy(sample);
            if (parted > most) {
                best = sample;
                most = parted;
            }
        }
        if (best < 0) {
            throw new NoSuchElementException("no sample parts them");
        }
        return best;
    }

    // ---- Talks

    public int send(int session, int side, int sample)
            throws IndexOutOfBoundsException, IllegalArgumentException, IllegalStateException {
        needSession(session);
        needSample(sample);
        needSide(side);
        if (talks.lengthOf(session) >= MOST_MESSAGES) {
            throw new IllegalStateException("the session has 12 messages");
        }
        return talks.add(session, side, sample);
    }

    public boolean isEcho(int place, int echo) throws IllegalArgumentException {
        needPlace(place);
        needPlace(echo);
        return talks.echoes(place, echo);
    }

    public boolean isCounter(int place) throws IllegalArgumentException {
        needPlace(place);
        return talks.counts(place);
    }

    public int states(int depth) throws IllegalArgumentException {
        needDepth(depth);
        return talks.countStates(depth);
    }

    public boolean canFollow(int session, int depth, int side, int value)
            throws IndexOutOfBoundsException, IllegalArgumentException {
        needSession(session);
        needDepth(depth);
        needSide(side);
        if (value < -1 || value > 255) {
            throw new IllegalArgumentException("the byte is out of range");
        }
        return talks.follows(session, depth, talks.symbol(side, value));
    }

    // ---- Figures

    public long checksum() {
        long sum = 0;
        for (int sample = 0; sample < samples.size(); sample++) {
            Row bytes = samples.bytesOf(sample);
            for (int place = 0; place < bytes.size(); place++) {
                sum = 31 * sum + bytes.at(place);
            }
        }
        return sum;
    }

    public float readShare(int description) throws IndexOutOfBoundsException, ArithmeticException {
        needDescription(description);
        int all = samples.size();
        if (all == 0) {
            throw new ArithmeticException("there are no samples");
        }
        int count = 0;
        for (int sample = 0; sample < all; sample++) {
            count += doesRead(description, sample) ? 1 : 0;
        }
        return (float) count / (float) all;
    }

    public double meanLength() throws ArithmeticException {
        int all = samples.size();
        if (all == 0) {
            throw new ArithmeticException("there are no samples");
        }
        long sum = 0;
        for (int sample = 0; sample < all; sample++) {
            sum += samples.bytesOf(sample).size();
        }
        return (double) sum / (double) all;
    }

    public boolean isSound() {
        return doAllComeBack() && doFoundOnesRead() && areFieldsWhole() && areDistancesEven();
    }

    // ---- What the calls need

    private void needSample(int sample) {
        if (!samples.has(sample)) {
            throw new IndexOutOfBoundsException("no such sample");
        }
    }

    private void needClass(int sample) {
        needSample(sample);
        if (samples.isAside(sample)) {
            throw new UnsupportedOperationException("the sample is set aside");
        }
    }

    private void needByte(int value) {
        if (value < 0 || value > 255) {
            throw new IllegalArgumentException("the byte is out of range");
        }
    }

    private void needColumn(int column) {
        if (column < 0 || column >= alignment.width()) {
            throw new NoSuchElementException("no such column");
        }
    }

    private void needRelation(Relations found, int index) {
        if (index < 0 || index >= found.size()) {
            throw new NoSuchElementException("no such relation");
        }
    }

    private void needClaim(int claim) {
        if (!claimers.has(claim)) {
            throw new IndexOutOfBoundsException("no such claim");
        }
    }

    private void needDescription(int description) {
        if (description < 0 || description >= descriptionCount) {
            throw new IndexOutOfBoundsException("no such description");
        }
    }

    private void needTextInBuffer() {
        if (!trial.become(buffer)) {
            throw new IllegalArgumentException("the buffer is no description");
        }
    }

    private void needRoomForDescription() {
        if (descriptionCount >= MOST_DESCRIPTIONS) {
            throw new IllegalStateException("there are 6 descriptions");
        }
    }

    private void needField(Reader behind, int field) {
        if (field < 0 || field >= behind.fieldCount()) {
            throw new NoSuchElementException("no such field");
        }
    }

    private void needSession(int session) {
        if (session < 0 || session >= SESSIONS) {
            throw new IndexOutOfBoundsException("no such session");
        }
    }

    private void needSide(int side) {
        if (side != 0 && side != 1) {
            throw new IllegalArgumentException("no such side");
        }
    }

    private void needPlace(int place) {
        if (place < 0 || place >= MOST_BYTES) {
            throw new IllegalArgumentException("the place is out of range");
        }
    }

    private void needDepth(int depth) {
        if (depth < 1 || depth > 3) {
            throw new IllegalArgumentException("the depth is out of range");
        }
    }

    // ---- Parts of the calls

    private void layClassOf(int sample) {
        needClass(sample);
        alignment.lay(samples.leaderOf(sample));
    }

    private Relations relationsOf(int sample) {
        needClass(sample);
        return seeker.seek(samples.leaderOf(sample));
    }

    private boolean holdsNow(int claim) {
        int claimer = claimers.at(claim);
        return samples.has(claimer) && !samples.isAside(claimer)
                && seeker.seek(samples.leaderOf(claimer)).hasOneOf(claimed, claim);
    }

    /** The sum of the counts of all pairs, or -1 if they are none. */
    private static int unpackedLength(Row bytes) {
        int sum = 0;
        for (int place = 0; place < bytes.size(); place += 2) {
            if (bytes.at(place) == 0 || !bytes.has(place + 1)) {
                return -1;
            }
            sum += bytes.at(place);
        }
        return sum;
    }

    private static boolean isSign(char sign) {
        switch (sign) {
            case 'c': case 'b': case 'n': case 'N': case 'v': case 'z': case 's': case 'x':
            case 'h': case 'r': case 'i': case '(': case ')': case '=':
                return true;
            default:
                return sign >= '0' && sign <= '9';
        }
    }

    private Description descriptionAt(int number) {
        if (number < 0 || number >= descriptions.length) {
            return trial;
        }
        Description description = descriptions[number];
        return description == null ? trial : description;
    }

    private int addDescription(Row text) {
        Description added = descriptionAt(descriptionCount);
        added.become(text);
        added.setPossible(true);
        descriptionCount++;
        return descriptionCount - 1;
    }

    private Reader readerBehind(int description, int sample) {
        needDescription(description);
        needSample(sample);
        reader.scan(descriptionAt(description), samples.bytesOf(sample));
        return reader;
    }

    private boolean doesRead(int description, int sample) {
        return reader.scan(descriptionAt(description), samples.bytesOf(sample)) < 0;
    }

    private int costOf(int number) {
        Description description = descriptionAt(number);
        int cost = SIGN_COST * description.text().size();
        for (int sample = 0; sample < samples.size(); sample++) {
            if (!samples.isAside(sample)) {
                cost += reader.costOf(description, samples.bytesOf(sample));
            }
        }
        return cost;
    }

    /** Puts a number for each item into a row, the same one for items that are alike. */
    private void numberItems(Description description, Description known, Row numbers) {
        numbers.empty();
        for (int node = 0; node < description.size(); node = Math.max(node + 1, description.endOf(node))) {
            int alike = known.itemLike(description, node);
            numbers.push(alike >= 0 ? alike : -1 - node);
        }
    }

    private void gatherShown(Description description) {
        for (int sample = 0; sample < shown.length; sample++) {
            boolean isRead = samples.has(sample) && !samples.isAside(sample)
                    && reader.scan(description, samples.bytesOf(sample)) < 0;
            shown[sample] = isRead ? reader.shown() : 0;
        }
    }

    /** What the samples show together that are chosen by bits. */
    private long shownBy(int chosen) {
        long together = 0;
        for (int sample = 0; sample < shown.length; sample++) {
            together |= (chosen >> sample & 1) == 1 ? shown[sample] : 0;
        }
        return together;
    }

    private int countPossible() {
        int count = 0;
        for (int number = 0; number < descriptionCount; number++) {
            count += descriptionAt(number).mayBe() ? 1 : 0;
        }
        return count;
    }

    /** How many possible descriptions read a sample, or how many do not, if these are fewer. */
    private int partedBy(int sample) {
        int reading = 0;
        for (int number = 0; number < descriptionCount; number++) {
            reading += descriptionAt(number).mayBe() && doesRead(number, sample) ? 1 : 0;
        }
        return Math.min(reading, countPossible() - reading);
    }

    private boolean doAllComeBack() {
        for (int sample = 0; sample < samples.size(); sample++) {
            if (!samples.isAside(sample)) {
                alignment.lay(samples.leaderOf(sample));
                if (!alignment.givesBack(sample)) {
                    return false;
                }
            }
        }
        return true;
    }

    private boolean doFoundOnesRead() {
        for (int number = 0; number < descriptionCount; number++) {
            for (int sample = 0; sample < samples.size(); sample++) {
                int length = samples.bytesOf(sample).size();
                if (descriptionAt(number).isFrom(sample, length) && !doesRead(number, sample)) {
                    return false;
                }
            }
        }
        return true;
    }

    private boolean areFieldsWhole() {
        for (int number = 0; number < descriptionCount; number++) {
            for (int sample = 0; sample < samples.size(); sample++) {
                if (doesRead(number, sample) && !reader.isWhole(samples.bytesOf(sample).size())) {
                    return false;
                }
            }
        }
        return true;
    }

    private boolean areDistancesEven() {
        for (int first = 0; first < samples.size(); first++) {
            for (int second = 0; second < first; second++) {
                if (!samples.isEven(second, first)) {
                    return false;
                }
            }
        }
        return true;
    }

    /** A row of numbers with a room; outside of the room it reads as 0, and nothing is written there. */
    private static final class Row {
        private final int[] numbers;
        private int count;

        Row(int room) {
            numbers = new int[room > 0 ? room : 0];
        }

        int size() {
            return count;
        }

        boolean isFull() {
            return count >= numbers.length;
        }

        boolean has(int place) {
            return place >= 0 && place < count;
        }

        int at(int place) {
            return place >= 0 && place < numbers.length ? numbers[place] : 0;
        }

        int last() {
            return at(count - 1);
        }

        void put(int place, int number) {
            if (place >= 0 && place < numbers.length) {
                numbers[place] = number;
            }
        }

        void push(int number) {
            if (count >= 0 && count < numbers.length) {
                numbers[count] = number;
                count++;
            }
        }

        /** Leaves out the last number. */
        void drop() {
            count = count > 0 ? count - 1 : 0;
        }

        void empty() {
            count = 0;
        }

        void fill(int number) {
            for (int place = 0; place < numbers.length; place++) {
                numbers[place] = number;
            }
        }

        void become(Row other) {
            empty();
            for (int place = 0; place < other.size(); place++) {
                push(other.at(place));
            }
        }

        /** The sum of the numbers from a place up to that ahead of the end, modulo 256. */
        int sum(int from, int end) {
            int sum = 0;
            for (int place = Math.max(from, 0); place < end && place < numbers.length; place++) {
                sum += numbers[place];
            }
            return sum & 255;
        }

        /** The numbers from a place up to that ahead of the end, by exclusive or. */
        int mixed(int from, int end) {
            int mixed = 0;
            for (int place = Math.max(from, 0); place < end && place < numbers.length; place++) {
                mixed ^= numbers[place];
            }
            return mixed;
        }

        /** The first place of a number, from a place on, or -1. */
        int placeOf(int number, int from) {
            for (int place = Math.max(from, 0); place < count && place < numbers.length; place++) {
                if (numbers[place] == number) {
                    return place;
                }
            }
            return -1;
        }

        int countDifferent() {
            int different = 0;
            for (int place = 0; place < count; place++) {
                different += placeOf(at(place), 0) == place ? 1 : 0;
            }
            return different;
        }

        /** Whether all become 32 to 126 by exclusive or with a mask. */
        boolean isPlainBehind(int mask) {
            for (int place = 0; place < count; place++) {
                int plain = at(place) ^ mask;
                if (plain < 32 || plain > 126) {
                    return false;
                }
            }
            return true;
        }

        /** Whether each is as much greater than the one ahead, modulo 256. */
        boolean isStepped() {
            for (int place = 2; place < count; place++) {
                if ((at(place) - at(place - 1) & 255) != (at(1) - at(0) & 255)) {
                    return false;
                }
            }
            return true;
        }
    }

    /** Compares rows by least edits and by greatest scores, in one grid that is used again. */
    private static final class Comparer {
        private static final int SIDE = MOST_SIGNS + 1;
        private static final int LIKE = 2;
        private static final int UNLIKE = -1;
        private static final int GAP = -2;

        private final Row grid = new Row(SIDE * SIDE);

        /** The least number of items to change, to add and to leave out. */
        int distance(Row first, Row second) {
            for (int i = 0; i <= first.size(); i++) {
                for (int j = 0; j <= second.size(); j++) {
                    grid.put(i * SIDE + j, leastEdits(first, second, i, j));
                }
            }
            return grid.at(first.size() * SIDE + second.size());
        }

        private int leastEdits(Row first, Row second, int i, int j) {
            if (i == 0 || j == 0) {
                return i + j;
            }
            int here = i * SIDE + j;
            int beside = grid.at(here - SIDE - 1) + (first.at(i - 1) == second.at(j - 1) ? 0 : 1);
            return Math.min(beside, Math.min(grid.at(here - SIDE), grid.at(here - 1)) + 1);
        }

        /** The greatest sum of two rows with gaps. */
        int score(Row first, Row second) {
            for (int i = 0; i <= first.size(); i++) {
                for (int j = 0; j <= second.size(); j++) {
                    grid.put(i * SIDE + j, greatestSum(first, second, i, j));
                }
            }
            return grid.at(first.size() * SIDE + second.size());
        }

        private int greatestSum(Row first, Row second, int i, int j) {
            if (i == 0 || j == 0) {
                return GAP * (i + j);
            }
            int here = i * SIDE + j;
            int beside = grid.at(here - SIDE - 1) + (first.at(i - 1) == second.at(j - 1) ? LIKE : UNLIKE);
            return Math.max(beside, Math.max(grid.at(here - SIDE), grid.at(here - 1)) + GAP);
        }

        /**
         * Puts for each byte of the other one where it stands: 2 i + 1 beside the byte i of the centre,
         * 2 i beside a gap ahead of it.
         */
        void trace(Row centre, Row other, Row spots, int from) {
            score(centre, other);
            int i = centre.size();
            int j = other.size();
            for (int step = 0; step <= 2 * MOST_BYTES && j > 0; step++) {
                if (i > 0 && isReachedBeside(centre, other, i, j)) {
                    i--;
                    j--;
                    spots.put(from + j, 2 * i + 1);
                } else if (i > 0 && grid.at(i * SIDE + j) == grid.at(i * SIDE + j - SIDE) + GAP) {
                    i--;
                } else {
                    j--;
                    spots.put(from + j, 2 * i);
                }
            }
        }

        private boolean isReachedBeside(Row first, Row second, int i, int j) {
            int here = i * SIDE + j;
            return grid.at(here) == grid.at(here - SIDE - 1) + (first.at(i - 1) == second.at(j - 1) ? LIKE : UNLIKE);
        }
    }

    /** The samples and their classes, which are those of the samples as they are after each change. */
    private static final class Samples {
        private static final int UNKNOWN = -1000000;

        private final Comparer comparer;
        private final Row[] rows = new Row[MOST_SAMPLES];
        private final Row nobody = new Row(0);
        private final boolean[] asides = new boolean[MOST_SAMPLES];
        private final Row distances = new Row(MOST_SAMPLES * MOST_SAMPLES);
        private final Row scores = new Row(MOST_SAMPLES * MOST_SAMPLES);
        private final Row leaders = new Row(MOST_SAMPLES);
        private int count;
        private int limit = 600;
        private int changes;

        Samples(Comparer comparer) {
            this.comparer = comparer;
            for (int number = 0; number < rows.length; number++) {
                rows[number] = new Row(MOST_BYTES);
            }
        }

        int size() {
            return count;
        }

        boolean isFull() {
            return count >= MOST_SAMPLES;
        }

        boolean has(int number) {
            return number >= 0 && number < count;
        }

        /** A number that differs whenever samples or classes may differ. */
        int version() {
            return changes;
        }

        Row bytesOf(int number) {
            if (number < 0 || number >= rows.length) {
                return nobody;
            }
            Row bytes = rows[number];
            return bytes == null ? nobody : bytes;
        }

        boolean isAside(int number) {
            return number >= 0 && number < asides.length && asides[number];
        }

        int begin() {
            count++;
            settle(count - 1);
            return count - 1;
        }

        int lengthen(int number, int value) {
            bytesOf(number).push(value);
            settle(number);
            return bytesOf(number).size();
        }

        boolean putAside(int number, boolean isAside) {
            boolean before = isAside(number);
            if (number >= 0 && number < asides.length) {
                asides[number] = isAside;
            }
            sort();
            return before;
        }

        int changeLimit(int wanted) {
            int before = limit;
            limit = wanted;
            sort();
            return before;
        }

        /** Compares a sample whose bytes are other ones now. */
        void settle(int number) {
            for (int other = 0; other < count; other++) {
                int lower = Math.min(number, other);
                int higher = Math.max(number, other);
                distances.put(backOf(lower, higher), UNKNOWN);
                distances.put(pairOf(lower, higher), comparer.distance(bytesOf(lower), bytesOf(higher)));
                scores.put(pairOf(lower, higher), UNKNOWN);
            }
            sort();
        }

        /** Both ways round a pair has the same number. */
        private static int pairOf(int first, int second) {
            return Math.min(first, second) * MOST_SAMPLES + Math.max(first, second);
        }

        /** The number of a pair from the higher one to the lower one. */
        private static int backOf(int lower, int higher) {
            return higher * MOST_SAMPLES + lower;
        }

        /** Whether the distance is the same both ways round; the way back is made when it is asked for, and kept. */
        boolean isEven(int lower, int higher) {
            int back = backOf(lower, higher);
            if (distances.at(back) == UNKNOWN) {
                distances.put(back, comparer.distance(bytesOf(higher), bytesOf(lower)));
            }
            return distances.at(back) == distances.at(pairOf(lower, higher));
        }

        int likenessOf(int first, int second) {
            int longer = Math.max(bytesOf(first).size(), bytesOf(second).size());
            return longer == 0 ? MOST_LIKE : MOST_LIKE - MOST_LIKE * distances.at(pairOf(first, second)) / longer;
        }

        /** Each turn carries the lowest number one sample farther, so that as many turns as samples are enough. */
        private void sort() {
            changes++;
            for (int number = 0; number < count; number++) {
                leaders.put(number, number);
            }
            boolean isMoving = true;
            for (int turn = 0; turn < count && isMoving; turn++) {
                isMoving = false;
                for (int first = 0; first < count; first++) {
                    for (int second = 0; second < first; second++) {
                        if (leaders.at(first) != leaders.at(second) && joins(first, second)) {
                            isMoving = true;
                        }
                    }
                }
            }
        }

        private boolean joins(int first, int second) {
            if (isAside(first) || isAside(second) || likenessOf(first, second) < limit) {
                return false;
            }
            int lower = Math.min(leaders.at(first), leaders.at(second));
            leaders.put(first, lower);
            leaders.put(second, lower);
            return true;
        }

        /** The lowest number of a sample in the class of one that is not set aside. */
        int leaderOf(int number) {
            return leaders.at(number);
        }

        boolean isIn(int number, int leader) {
            return has(number) && !isAside(number) && leaders.at(number) == leader;
        }

        int classSize(int leader) {
            int size = 0;
            for (int number = 0; number < count; number++) {
                size += isIn(number, leader) ? 1 : 0;
            }
            return size;
        }

        int countInUse() {
            int inUse = 0;
            for (int number = 0; number < count; number++) {
                inUse += isAside(number) ? 0 : 1;
            }
            return inUse;
        }

        /** The centre of a class whose scores are known. */
        int centreOf(int leader) {
            int centre = leader;
            int greatest = sumOfScores(leader, leader);
            for (int number = leader + 1; number < count; number++) {
                int sum = sumOfScores(number, leader);
                if (isIn(number, leader) && sum > greatest) {
                    centre = number;
                    greatest = sum;
                }
            }
            return centre;
        }

        /** Scores are dear and seldom asked for: those of one class are made when they are. */
        void scoreClass(int leader) {
            for (int first = leader; first < count; first++) {
                for (int second = leader; second < first; second++) {
                    int pair = pairOf(first, second);
                    if (isIn(first, leader) && isIn(second, leader) && scores.at(pair) == UNKNOWN) {
                        scores.put(pair, comparer.score(bytesOf(first), bytesOf(second)));
                    }
                }
            }
        }

        private int sumOfScores(int number, int leader) {
            int sum = 0;
            for (int other = 0; other < count; other++) {
                sum += other != number && isIn(other, leader) ? scores.at(pairOf(number, other)) : 0;
            }
            return sum;
        }
    }

    /** The columns of one class, kept until another class is asked for or the samples change. */
    private static final class Alignment {
        /** The bytes of the centre, and all bytes of all others ahead of them. */
        private static final int MOST_COLUMNS = MOST_SAMPLES * MOST_BYTES;
        private static final int EMPTY_CELL = -1;

        private final Samples samples;
        private final Comparer comparer;
        private final Row spots = new Row(MOST_SAMPLES * MOST_BYTES);
        private final Row gaps = new Row(MOST_BYTES + 1);
        private final Row begins = new Row(MOST_BYTES + 1);
        private final Row cells = new Row(MOST_SAMPLES * MOST_COLUMNS);
        private final Row column = new Row(MOST_SAMPLES);
        private int middle;
        private int width;
        private int leader = -1;
        private int laidAt = -1;

        Alignment(Samples samples, Comparer comparer) {
            this.samples = samples;
            this.comparer = comparer;
        }

        /** The centre of the class. */
        int middle() {
            return middle;
        }

        int width() {
            return width;
        }

        void lay(int wanted) {
            if (leader == wanted && laidAt == samples.version()) {
                return;
            }
            leader = wanted;
            laidAt = samples.version();
            samples.scoreClass(leader);
            middle = samples.centreOf(leader);
            Row centre = samples.bytesOf(middle);
            gaps.fill(0);
            for (int sample = 0; sample < samples.size(); sample++) {
                if (sample != middle && samples.isIn(sample, leader)) {
                    comparer.trace(centre, samples.bytesOf(sample), spots, sample * MOST_BYTES);
                    widen(sample);
                }
            }
            standInOrder(centre.size());
            countColumns(centre.size());
            for (int sample = 0; sample < samples.size(); sample++) {
                if (samples.isIn(sample, leader)) {
                    spread(sample);
                }
            }
        }

        /** The centre stands beside itself. */
        private void standInOrder(int length) {
            for (int place = 0; place < length; place++) {
                spots.put(middle * MOST_BYTES + place, 2 * place + 1);
            }
        }

        private int spotOf(int sample, int place) {
            return spots.at(sample * MOST_BYTES + place);
        }

        /** How many bytes of the sample, up to this one, stand beside gaps ahead of the same byte of the centre. */
        private int runAt(int sample, int place) {
            int spot = spotOf(sample, place);
            int run = 1;
            for (int ahead = place - 1; ahead >= 0 && spotOf(sample, ahead) == spot; ahead--) {
                run++;
            }
            return run;
        }

        private void widen(int sample) {
            for (int place = 0; place < samples.bytesOf(sample).size(); place++) {
                int spot = spotOf(sample, place);
                if (spot % 2 == 0 && runAt(sample, place) > gaps.at(spot / 2)) {
                    gaps.put(spot / 2, runAt(sample, place));
                }
            }
        }

        private void countColumns(int centreSize) {
            int begin = 0;
            for (int place = 0; place <= centreSize; place++) {
                begins.put(place, begin);
                begin += gaps.at(place) + 1;
            }
            width = begin - 1;
        }

        private void spread(int sample) {
            for (int index = 0; index < width; index++) {
                cells.put(sample * MOST_COLUMNS + index, EMPTY_CELL);
            }
            Row bytes = samples.bytesOf(sample);
            for (int place = 0; place < bytes.size(); place++) {
                int spot = spotOf(sample, place);
                int begin = begins.at(spot / 2);
                int index = spot % 2 == 0 ? begin + runAt(sample, place) - 1 : begin + gaps.at(spot / 2);
                cells.put(sample * MOST_COLUMNS + index, bytes.at(place));
            }
        }

        int at(int sample, int index) {
            return cells.at(sample * MOST_COLUMNS + index);
        }

        char verdict(int wanted) {
            gather(wanted);
            int different = column.countDifferent();
            if (different <= 1) {
                return 'c';
            }
            if (column.size() >= 3 && column.isStepped()) {
                return 'n';
            }
            if (2 * different <= column.size()) {
                return 'e';
            }
            return column.isPlainBehind(0) ? 't' : 'r';
        }

        private void gather(int wanted) {
            column.empty();
            for (int sample = 0; sample < samples.size(); sample++) {
                if (samples.isIn(sample, leader) && at(sample, wanted) != EMPTY_CELL) {
                    column.push(at(sample, wanted));
                }
            }
        }

        boolean givesBack(int sample) {
            Row bytes = samples.bytesOf(sample);
            int place = 0;
            for (int index = 0; index < width; index++) {
                int found = at(sample, index);
                if (found != EMPTY_CELL) {
                    if (!bytes.has(place) || bytes.at(place) != found) {
                        return false;
                    }
                    place++;
                }
            }
            return place == bytes.size();
        }
    }

    /** Relations behind one another. */
    private static final class Relations {
        private final Row kinds;
        private final Row places;
        private final Row forms;
        private final Row rests;

        Relations(int room) {
            kinds = new Row(room);
            places = new Row(room);
            forms = new Row(room);
            rests = new Row(room);
        }

        int size() {
            return kinds.size();
        }

        void empty() {
            kinds.empty();
            places.empty();
            forms.empty();
            rests.empty();
        }

        void push(char kind, int place, int form, int rest) {
            kinds.push(kind);
            places.push(place);
            forms.push(form);
            rests.push(rest);
        }

        char kindAt(int index) {
            return (char) kinds.at(index);
        }

        int placeAt(int index) {
            return places.at(index);
        }

        int formAt(int index) {
            return forms.at(index);
        }

        int restAt(int index) {
            return rests.at(index);
        }

        boolean isThere(char kind, int place) {
            for (int index = 0; index < size(); index++) {
                if (kindAt(index) == kind && placeAt(index) == place) {
                    return true;
                }
            }
            return false;
        }

        boolean hasOneOf(Relations others, int other) {
            for (int index = 0; index < size(); index++) {
                if (kindAt(index) == others.kindAt(other) && placeAt(index) == others.placeAt(other)
                        && formAt(index) == others.formAt(other) && restAt(index) == others.restAt(other)) {
                    return true;
                }
            }
            return false;
        }
    }

    /** The samples of one class, by rising numbers. */
    private static final class Members {
        private final Samples samples;
        private final Row numbers = new Row(MOST_SAMPLES);

        Members(Samples samples) {
            this.samples = samples;
        }

        void gather(int leader) {
            numbers.empty();
            for (int sample = 0; sample < samples.size(); sample++) {
                if (samples.isIn(sample, leader)) {
                    numbers.push(sample);
                }
            }
        }

        int size() {
            return numbers.size();
        }

        /** The bytes of one of them. */
        Row at(int index) {
            return samples.bytesOf(numbers.at(index));
        }

        int shortest() {
            int shortest = MOST_BYTES;
            for (int index = 0; index < size(); index++) {
                shortest = Math.min(shortest, at(index).size());
            }
            return shortest;
        }

        int countBytes() {
            int bytes = 0;
            for (int index = 0; index < size(); index++) {
                bytes += at(index).size();
            }
            return bytes;
        }

        boolean areAsLong() {
            for (int index = 1; index < size(); index++) {
                if (at(index).size() != at(0).size()) {
                    return false;
                }
            }
            return true;
        }

        boolean areAlikeAt(int place) {
            for (int index = 1; index < size(); index++) {
                if (at(index).at(place) != at(0).at(place)) {
                    return false;
                }
            }
            return true;
        }
    }

    /** Looks for the relations in the samples of a class. */
    private static final class Seeker {
        /** At a place at most three lengths, three sums, a key, a count and an offset can hold. */
        private static final int MOST_RELATIONS = 9 * MOST_BYTES;

        private final Members members;
        private final Relations found = new Relations(MOST_RELATIONS);

        Seeker(Members members) {
            this.members = members;
        }

        Relations seek(int leader) {
            found.empty();
            members.gather(leader);
            if (members.size() >= 2) {
                seekLengths();
                seekSums('+');
                seekSums('^');
                seekSums('-');
                seekKeys();
                seekCounts();
                seekOffsets();
            }
            return found;
        }

        private void seekLengths() {
            if (members.areAsLong()) {
                return;
            }
            int end = members.shortest();
            for (int place = 0; place < end; place++) {
                for (int form = 1; form <= 3; form++) {
                    int rest = restOf(members.at(0), place, form);
                    if ((form == 1 || place + 1 < end) && rest >= 0 && isRestOfAll(place, form, rest)) {
                        found.push('l', place, form, rest);
                    }
                }
            }
        }

        /** The length less the number. */
        private static int restOf(Row bytes, int place, int form) {
            int first = bytes.at(place);
            int second = bytes.at(place + 1);
            if (form == 1) {
                return bytes.size() - first;
            }
            return bytes.size() - (form == 2 ? 256 * first + second : 256 * second + first);
        }

        private boolean isRestOfAll(int place, int form, int rest) {
            for (int index = 1; index < members.size(); index++) {
                if (restOf(members.at(index), place, form) != rest) {
                    return false;
                }
            }
            return true;
        }

        private void seekSums(char kind) {
            int end = members.shortest() - 1;
            for (int place = 0; place < end; place++) {
                if (areAllSummed(kind, place)) {
                    found.push(kind, place, 0, 0);
                }
            }
        }

        private boolean areAllSummed(char kind, int place) {
            for (int index = 0; index < members.size(); index++) {
                Row bytes = members.at(index);
                if (bytes.last() != summed(kind, bytes, place)) {
                    return false;
                }
            }
            return true;
        }

        private static int summed(char kind, Row bytes, int place) {
            int end = bytes.size() - 1;
            if (kind == '^') {
                return bytes.mixed(place, end);
            }
            return kind == '+' ? bytes.sum(place, end) : -bytes.sum(place, end) & 255;
        }

        private void seekKeys() {
            if (members.areAsLong()) {
                return;
            }
            int end = members.shortest();
            for (int place = 0; place < end; place++) {
                if (isKey(place)) {
                    found.push('k', place, 0, 0);
                }
            }
        }

        private boolean isKey(int place) {
            for (int first = 0; first < members.size(); first++) {
                for (int second = 0; second < first; second++) {
                    boolean isSameByte = members.at(first).at(place) == members.at(second).at(place);
                    boolean isSameLength = members.at(first).size() == members.at(second).size();
                    if (isSameByte != isSameLength) {
                        return false;
                    }
                }
            }
            return true;
        }

        private void seekCounts() {
            int end = members.shortest();
            for (int place = 0; place < end; place++) {
                for (int width = 2; width <= 8 && !members.areAlikeAt(place); width++) {
                    int rest = restBehind(members.at(0), place, width);
                    if (rest >= 0 && rest <= 3 && isCountOfAll(place, width, rest)) {
                        found.push('r', place, width, rest);
                    }
                }
            }
        }

        /** What is left behind the place, and behind as many times the width as the byte there. */
        private static int restBehind(Row bytes, int place, int width) {
            return bytes.size() - 1 - place - width * bytes.at(place);
        }

        private boolean isCountOfAll(int place, int width, int rest) {
            for (int index = 1; index < members.size(); index++) {
                if (restBehind(members.at(index), place, width) != rest) {
                    return false;
                }
            }
            return true;
        }

        private void seekOffsets() {
            int end = members.shortest();
            for (int place = 0; place < end; place++) {
                int target = members.at(0).at(members.at(0).at(place));
                if (!members.areAlikeAt(place) && doAllLeadTo(place, target)) {
                    found.push('o', place, target, 0);
                }
            }
        }

        private boolean doAllLeadTo(int place, int target) {
            for (int index = 0; index < members.size(); index++) {
                Row bytes = members.at(index);
                if (!bytes.has(bytes.at(place)) || bytes.at(bytes.at(place)) != target) {
                    return false;
                }
            }
            return true;
        }
    }

    /** A text, its items one behind the other (those within another one directly behind it), and its standing. */
    private static final class Description {
        private static final int NOT_FROM = -1;

        private final Row text = new Row(MOST_SIGNS);
        private final Row signs = new Row(MOST_SIGNS);
        private final Row starts = new Row(MOST_SIGNS);
        private final Row values = new Row(MOST_SIGNS);
        private final Row registers = new Row(MOST_SIGNS);
        private final Row groups = new Row(MOST_SIGNS);
        private final Row ends = new Row(MOST_SIGNS);
        private final Row open = new Row(MOST_NESTED);
        private final Row sources = new Row(MOST_SAMPLES);
        private int place;
        private int registerCount;
        private int groupCount;
        private boolean isPossibleStill;

        Description() {
            sources.fill(NOT_FROM);
        }

        Row text() {
            return text;
        }

        int size() {
            return signs.size();
        }

        int signOf(int node) {
            return signs.at(node);
        }

        int valueOf(int node) {
            return values.at(node);
        }

        int registerOf(int node) {
            return registers.at(node);
        }

        /** The number of an item's ( ) in the text. */
        int groupOf(int node) {
            return groups.at(node);
        }

        /** The item behind this one and all that are within it. */
        int endOf(int node) {
            return ends.at(node);
        }

        boolean mayBe() {
            return isPossibleStill;
        }

        void setPossible(boolean isIt) {
            isPossibleStill = isIt;
        }

        void addSource(int sample, int length) {
            sources.put(sample, length);
        }

        /** Whether it was found from this sample, as it is now: samples only grow, so a length tells. */
        boolean isFrom(int sample, int length) {
            return length >= 0 && sources.at(sample) == length;
        }

        /** Takes a text; answers whether it is a description. */
        boolean become(Row typed) {
            text.become(typed);
            forgetItems();
            boolean isGood = text.size() > 0;
            for (int turn = 0; turn < MOST_SIGNS && isGood && text.has(place); turn++) {
                isGood = text.at(place) == ')' ? closes() : takesItem();
            }
            return isGood && open.size() == 0;
        }

        private void forgetItems() {
            sources.fill(NOT_FROM);
            signs.empty();
            open.empty();
            place = 0;
            registerCount = 0;
            groupCount = 0;
        }

        private boolean takesItem() {
            int node = signs.size();
            signs.push(text.at(place));
            starts.put(node, place);
            ends.put(node, node + 1);
            place++;
            switch (signs.at(node)) {
                case 'z': case 's': case 'x': case 'h':
                    return true;
                case 'c':
                    return takesNumber(node, 0, 255);
                case 'b':
                    return takesNumber(node, 1, MOST_BYTES);
                case 'n': case 'N':
                    registers.put(node, registerCount);
                    registerCount++;
                    return true;
                case 'v':
                    return takesRegister(node);
                case 'r':
                    return takesRegister(node) && opens(node);
                case 'i':
                    return takesRegister(node) && takesSign('=') && takesNumber(node, 0, 255) && opens(node);
                default:
                    return false;
            }
        }

        private boolean isDigitNext() {
            return text.has(place) && text.at(place) >= '0' && text.at(place) <= '9';
        }

        private boolean takesNumber(int node, int least, int most) {
            int before = place;
            int number = 0;
            for (int digit = 0; digit < 3 && isDigitNext(); digit++) {
                number = 10 * number + text.at(place) - '0';
                place++;
            }
            values.put(node, number);
            return place > before && number >= least && number <= most;
        }

        private boolean takesRegister(int node) {
            if (!isDigitNext()) {
                return false;
            }
            int register = text.at(place) - '0';
            registers.put(node, register);
            place++;
            return register < registerCount;
        }

        private boolean takesSign(char sign) {
            if (!text.has(place) || text.at(place) != sign) {
                return false;
            }
            place++;
            return true;
        }

        private boolean opens(int node) {
            if (open.isFull() || !takesSign('(')) {
                return false;
            }
            open.push(node);
            groups.put(node, groupCount);
            groupCount++;
            return true;
        }

        private boolean closes() {
            int node = open.last();
            if (open.size() == 0 || signs.size() == node + 1) {
                return false;
            }
            ends.put(node, signs.size());
            open.drop();
            place++;
            return true;
        }

        /** The first outermost item here with the same text as one of another description, or -1. */
        int itemLike(Description other, int otherNode) {
            for (int node = 0; node < size(); node = Math.max(node + 1, endOf(node))) {
                if (isItemLike(node, other, otherNode)) {
                    return node;
                }
            }
            return -1;
        }

        private boolean isItemLike(int node, Description other, int otherNode) {
            int length = itemLength(node);
            if (length != other.itemLength(otherNode)) {
                return false;
            }
            for (int step = 0; step < length; step++) {
                if (text.at(starts.at(node) + step) != other.text.at(other.starts.at(otherNode) + step)) {
                    return false;
                }
            }
            return true;
        }

        private int itemLength(int node) {
            int behind = endOf(node);
            return (behind < size() ? starts.at(behind) : text.size()) - starts.at(node);
        }
    }

    /** Reads a sample by a description, and keeps the fields and what was shown. */
    private static final class Reader {
        /** At most 29 items can be without bytes, and on 40 bytes what is in four ( ) comes at most 161 times. */
        private static final int MOST_FIELDS = 4800;
        /** As many times all items of a text, and as often the ends of all ( ). */
        private static final int MOST_STEPS = 20000;

        private final Row kinds = new Row(MOST_FIELDS);
        private final Row starts = new Row(MOST_FIELDS);
        private final Row sizes = new Row(MOST_FIELDS);
        private final Row registers = new Row(MOST_SIGNS);
        private final Row open = new Row(MOST_NESTED);
        private final Row times = new Row(MOST_NESTED);
        private final Row begun = new Row(MOST_NESTED);
        private final Row since = new Row(MOST_NESTED);
        private int place;
        private int failure = -1;
        private long shownBits;

        int failure() {
            return failure;
        }

        int fieldCount() {
            return kinds.size();
        }

        int startOf(int field) {
            return starts.at(field);
        }

        int sizeOf(int field) {
            return sizes.at(field);
        }

        /** A bit for each thing that was shown, three for each pair of ( ). */
        long shown() {
            return shownBits;
        }

        /** Answers the place at which it fails, or -1. */
        int scan(Description description, Row bytes) {
            beginAnew();
            int node = 0;
            for (int step = 0; step < MOST_STEPS && failure < 0; step++) {
                if (open.size() > 0 && node == description.endOf(open.last())) {
                    node = goesRound(description, node);
                } else if (node >= description.size()) {
                    failure = place < bytes.size() ? place : -1;
                    return failure;
                } else if (description.signOf(node) == 'r') {
                    node = goesIn(description, node, registers.at(description.registerOf(node)));
                } else if (description.signOf(node) == 'i') {
                    boolean isIt = registers.at(description.registerOf(node)) == description.valueOf(node);
                    node = goesIn(description, node, isIt ? 1 : 0);
                } else {
                    take(description.signOf(node), description.valueOf(node), description.registerOf(node), bytes);
                    node++;
                }
            }
            return failure;
        }

        private void beginAnew() {
            kinds.empty();
            starts.empty();
            sizes.empty();
            registers.fill(0);
            open.empty();
            place = 0;
            failure = -1;
            shownBits = 0;
        }

        /** Begins the items in ( ), to be read so many times; answers where to go on. */
        private int goesIn(Description description, int node, int wanted) {
            if (wanted == 0 || open.isFull()) {
                show(description.groupOf(node), 0);
                return description.endOf(node);
            }
            int level = open.size();
            open.push(node);
            times.put(level, wanted);
            begun.put(level, 1);
            since.put(level, place);
            return node + 1;
        }

        /** At the end of items in ( ): begins them again, or leaves them; answers where to go on. */
        private int goesRound(Description description, int node) {
            int level = open.size() - 1;
            int group = open.last();
            if (begun.at(level) < times.at(level) && place > since.at(level)) {
                begun.put(level, begun.at(level) + 1);
                since.put(level, place);
                return group + 1;
            }
            show(description.groupOf(group), Math.min(begun.at(level), 2));
            open.drop();
            return node;
        }

        private void show(int group, int what) {
            shownBits |= 1L << 3 * group + what;
        }

        private void take(int sign, int value, int register, Row bytes) {
            int size = wantedSize(sign, value, register, bytes);
            if (size > bytes.size() - place) {
                failure = bytes.size();
            } else if (isOther(sign, value, bytes)) {
                failure = place;
            } else {
                if (sign == 'n' || sign == 'N') {
                    int high = sign == 'N' ? 256 * bytes.at(place) : 0;
                    registers.put(register, high + bytes.at(place + size - 1));
                }
                kinds.push(sign);
                starts.push(place);
                sizes.push(size);
                place += size;
            }
        }

        /** How many bytes an item takes from here; more than there are if it finds no end. */
        private int wantedSize(int sign, int value, int register, Row bytes) {
            if (sign == 'z') {
                int end = bytes.placeOf(0, place);
                return (end < 0 ? bytes.size() : end) + 1 - place;
            }
            if (sign == 'b') {
                return value;
            }
            if (sign == 'v') {
                return registers.at(register);
            }
            return sign == 'N' ? 2 : 1;
        }

        /** Whether the byte here is not the one that is told. */
        private boolean isOther(int sign, int value, Row bytes) {
            switch (sign) {
                case 'c':
                    return bytes.at(place) != value;
                case 's':
                    return bytes.at(place) != bytes.sum(0, place);
                case 'x':
                    return bytes.at(place) != bytes.mixed(0, place);
                default:
                    return false;
            }
        }

        /** What a sample adds to the cost of a description. */
        int costOf(Description description, Row bytes) {
            if (scan(description, bytes) >= 0) {
                return UNREAD_COST;
            }
            int cost = 0;
            for (int field = 0; field < fieldCount(); field++) {
                int kind = kinds.at(field);
                cost += kind == 'c' || kind == 's' || kind == 'x' ? 0 : BYTE_COST * sizeOf(field);
            }
            return cost;
        }

        /** Whether the byte at a place of the sample that was read can be another one. */
        boolean mayChange(int changed, int value) {
            for (int field = 0; field < fieldCount(); field++) {
                int end = startOf(field) + sizeOf(field);
                if (changed >= startOf(field) && changed < end) {
                    int kind = kinds.at(field);
                    if (kind == 'z') {
                        return changed < end - 1 && value != 0;
                    }
                    return kind == 'b' || kind == 'v' || kind == 'h';
                }
            }
            return false;
        }

        /** Mends the sums in a row of bytes with the fields that were read. */
        void mendSums(Row bytes) {
            for (int field = 0; field < fieldCount(); field++) {
                int at = startOf(field);
                if (kinds.at(field) == 's') {
                    bytes.put(at, bytes.sum(0, at));
                } else if (kinds.at(field) == 'x') {
                    bytes.put(at, bytes.mixed(0, at));
                }
            }
        }

        /** Whether the fields lie behind one another over so many bytes. */
        boolean isWhole(int length) {
            int end = 0;
            for (int field = 0; field < fieldCount(); field++) {
                if (startOf(field) != end) {
                    return false;
                }
                end += sizeOf(field);
            }
            return end == length;
        }
    }

    /** Makes descriptions from a class, and keeps the cheapest one. */
    private static final class Finder {
        /** c and a number for each place, and n, v0 and s or x behind them. */
        private static final int MOST_DRAFTED = 4 * MOST_BYTES + 4;

        private final Members members;
        private final Seeker seeker;
        private final Row draft = new Row(MOST_DRAFTED);
        private final Row chosen = new Row(MOST_SIGNS);
        private int holes;
        private boolean hasChosen;
        private int least;

        Finder(Members members, Seeker seeker) {
            this.members = members;
            this.seeker = seeker;
        }

        /** The text that was found last. */
        Row found() {
            return chosen;
        }

        boolean finds(int leader) {
            hasChosen = false;
            members.gather(leader);
            tryFixed();
            tryLengths(seeker.seek(leader));
            tryText();
            return hasChosen;
        }

        private void tryFixed() {
            int length = members.at(0).size();
            if (length > 0 && members.areAsLong()) {
                draftPlaces(length);
                weigh(holes * members.size());
            }
        }

        private void tryLengths(Relations found) {
            boolean isSummed = found.isThere('+', 0);
            boolean isMixed = found.isThere('^', 0);
            for (int index = 0; index < found.size(); index++) {
                int place = found.placeAt(index);
                int more = found.restAt(index) - place;
                boolean isLength = found.kindAt(index) == 'l' && found.formAt(index) == 1;
                if (isLength && (more == 1 || more == 2 && (isSummed || isMixed))) {
                    draftPlaces(place);
                    draft.push('n');
                    draft.push('v');
                    draft.push('0');
                    if (more == 2) {
                        draft.push(isSummed ? 's' : 'x');
                    }
                    // What costs is all bytes but those of c, and but the one of s or x if the rest is 2 more.
                    weigh(members.countBytes() - (place - holes + more - 1) * members.size());
                }
            }
        }

        private void tryText() {
            for (int index = 0; index < members.size(); index++) {
                Row bytes = members.at(index);
                if (bytes.size() == 0 || bytes.placeOf(0, 0) != bytes.size() - 1) {
                    return;
                }
            }
            draft.empty();
            draft.push('z');
            weigh(members.countBytes());
        }

        /** Drafts c or h for the places ahead of the end, and counts the h. */
        private void draftPlaces(int end) {
            draft.empty();
            holes = 0;
            for (int place = 0; place < end; place++) {
                if (members.areAlikeAt(place)) {
                    draft.push('c');
                    draftNumber(members.at(0).at(place));
                } else {
                    draft.push('h');
                    holes++;
                }
            }
        }

        private void draftNumber(int number) {
            if (number >= 100) {
                draft.push('0' + number / 100);
            }
            if (number >= 10) {
                draft.push('0' + number / 10 % 10);
            }
            draft.push('0' + number % 10);
        }

        /** Keeps the draft if it costs less than those ahead, by its signs and so many bytes. */
        private void weigh(int bytes) {
            int cost = SIGN_COST * draft.size() + BYTE_COST * bytes;
            if (draft.size() <= MOST_SIGNS && (!hasChosen || cost < least)) {
                hasChosen = true;
                least = cost;
                chosen.become(draft);
            }
        }
    }

    /** The sessions, and what their messages tell. */
    private static final class Talks {
        private static final int NO_BYTE = -1;
        /** Symbols are 1 to 514, so that fewer of them never look like more. */
        private static final int SYMBOLS = 515;

        private final Samples samples;
        private final Row lengths = new Row(SESSIONS);
        private final Row sides = new Row(SESSIONS * MOST_MESSAGES);
        private final Row sent = new Row(SESSIONS * MOST_MESSAGES);

        Talks(Samples samples) {
            this.samples = samples;
        }

        int lengthOf(int session) {
            return lengths.at(session);
        }

        int add(int session, int side, int sample) {
            int message = lengthOf(session);
            sides.put(session * MOST_MESSAGES + message, side);
            sent.put(session * MOST_MESSAGES + message, sample);
            lengths.put(session, message + 1);
            return message + 1;
        }

        private int sideOf(int session, int message) {
            return sides.at(session * MOST_MESSAGES + message);
        }

        private Row bytesOf(int session, int message) {
            return samples.bytesOf(sent.at(session * MOST_MESSAGES + message));
        }

        int symbol(int side, int value) {
            return 257 * side + value + 2;
        }

        private int symbolOf(int session, int message) {
            Row bytes = bytesOf(session, message);
            return symbol(sideOf(session, message), bytes.size() == 0 ? NO_BYTE : bytes.at(0));
        }

        boolean echoes(int place, int echo) {
            int pairs = 0;
            for (int session = 0; session < SESSIONS; session++) {
                for (int message = 1; message < lengthOf(session); message++) {
                    if (sideOf(session, message - 1) == 0 && sideOf(session, message) == 1) {
                        Row first = bytesOf(session, message - 1);
                        Row second = bytesOf(session, message);
                        if (!first.has(place) || !second.has(echo) || first.at(place) != second.at(echo)) {
                            return false;
                        }
                        pairs++;
                    }
                }
            }
            return pairs >= 2;
        }

        boolean counts(int place) {
            int steps = 0;
            for (int session = 0; session < SESSIONS; session++) {
                int counted = stepsIn(session, place);
                if (counted < 0) {
                    return false;
                }
                steps += counted;
            }
            return steps >= 2;
        }

        /** How often a byte becomes 1 more in a session, or -1 if it does otherwise or is not there. */
        private int stepsIn(int session, int place) {
            int steps = -1;
            int ahead = 0;
            for (int message = 0; message < lengthOf(session); message++) {
                if (sideOf(session, message) == 0) {
                    Row bytes = bytesOf(session, message);
                    if (!bytes.has(place) || steps >= 0 && bytes.at(place) != (ahead + 1 & 255)) {
                        return -1;
                    }
                    steps++;
                    ahead = bytes.at(place);
                }
            }
            return Math.max(steps, 0);
        }

        /** One number for the last symbols of a session's first messages. */
        private int stateOf(int session, int length, int depth) {
            int state = 0;
            for (int message = Math.max(0, length - depth); message < length; message++) {
                state = SYMBOLS * state + symbolOf(session, message);
            }
            return state;
        }

        int countStates(int depth) {
            int count = 0;
            for (int session = 0; session < SESSIONS; session++) {
                for (int length = 0; length <= lengthOf(session); length++) {
                    count += isNew(session, length, depth) ? 1 : 0;
                }
            }
            return count;
        }

        /** Whether no state ahead of this one, by sessions and lengths, is one with it. */
        private boolean isNew(int session, int length, int depth) {
            int state = stateOf(session, length, depth);
            for (int earlier = 0; earlier <= session; earlier++) {
                int end = earlier == session ? length : lengthOf(earlier) + 1;
                for (int other = 0; other < end; other++) {
                    if (stateOf(earlier, other, depth) == state) {
                        return false;
                    }
                }
            }
            return true;
        }

        boolean follows(int session, int depth, int symbol) {
            int state = stateOf(session, lengthOf(session), depth);
            for (int other = 0; other < SESSIONS; other++) {
                for (int message = 0; message < lengthOf(other); message++) {
                    if (stateOf(other, message, depth) == state && symbolOf(other, message) == symbol) {
                        return true;
                    }
                }
            }
            return false;
        }
    }
}
