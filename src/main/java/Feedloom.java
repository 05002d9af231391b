import java.util.NoSuchElementException;

/** A reader of feeds. The document, ../shared/DOC.md, says what each call promises. */
public final class Feedloom {
    public static final int NONE = -1;
    public static final int HIDE = 8;
    public static final int SHOW = 9;

    private static final int LAST_MINUTE = 99999;
    private static final int LONGEST_PASS = 2000;
    private static final int WIDEST_WINDOW = 1440;
    private static final int EARLIEST_TOLD = 1440;
    private static final int FIRST_WINDOW = 180;
    private static final int FIRST_THRESHOLD = 60;
    private static final int WHOLE = 100;

    private static final int MOST_SOURCES = 6;
    private static final int ALL_SOURCES = 63;
    private static final int LAST_TAG = 7;
    private static final int ALL_TAGS = 255;
    private static final int HIDDEN = 1 << HIDE;
    private static final int KEYS = 1000;

    private static final int MOST_ITEMS = 30;
    private static final int KEPT_TITLES = 4;
    private static final int MOST_RULES = 6;
    private static final int MOST_RIVERS = 4;
    private static final int MOST_DEVICES = 4;

    /** The reader's marks stand in a row behind those of the devices, so that both are read alike. */
    private static final int READER = MOST_DEVICES;

    private int minute = 0;
    private int threshold = FIRST_THRESHOLD;
    private int window = FIRST_WINDOW;
    private int sourceCount = 0;
    private final Items items = new Items();
    private final Rules rules = new Rules();
    private final Rivers rivers = new Rivers();
    private final Devices devices = new Devices();
    private final Marks marks = new Marks();

    /** Rows that questions write over, made once because every object of a run stays. */
    private final int[] shown = new int[MOST_ITEMS];
    private final int[] shownAnew = new int[MOST_ITEMS];

    public Feedloom() {
    }

    // ---- time and settings

    public int pass(int minutes) throws IllegalArgumentException, IllegalStateException {
        if (minutes < 1 || minutes > LONGEST_PASS) {
            throw new IllegalArgumentException("the minutes are out of range");
        }
        if (minute + minutes > LAST_MINUTE) {
            throw new IllegalStateException("the present minute would be too late");
        }
        minute += minutes;
        return minute;
    }

    public int now() {
        return minute;
    }

    public int setThreshold(int percent) throws IllegalArgumentException {
        if (percent < 1 || percent > WHOLE) {
            throw new IllegalArgumentException("the threshold is out of range");
        }
        int before = threshold;
        threshold = percent;
        return before;
    }

    public int setWindow(int minutes) throws IllegalArgumentException {
        if (minutes < 0 || minutes > WIDEST_WINDOW) {
            throw new IllegalArgumentException("the window is out of range");
        }
        int before = window;
        window = minutes;
        return before;
    }

    public int likeness(long title, long other) throws IllegalArgumentException {
        if (title == 0 || other == 0) {
            throw new IllegalArgumentException("a title has no words");
        }
        return percentInCommon(title, other);
    }

    // ---- sources and items

    public int addSource() throws IllegalStateException {
        if (sourceCount >= MOST_SOURCES) {
            throw new IllegalStateException("there are 6 sources");
        }
        sourceCount++;
        return sourceCount - 1;
    }

    public int fetch(int source, int identifier, int link, long title, int told)
            throws IndexOutOfBoundsException, IllegalArgumentException, IllegalStateException {
        if (source < 0 || source >= sourceCount) {
            throw new IndexOutOfBoundsException("there is no such source");
        }
        if (!isKeyOrNone(identifier) || !isKeyOrNone(link) || !isMinuteOrNone(told) || title == 0) {
            throw new IllegalArgumentException("the identifier, the link, the minute or the title is wrong");
        }
        int item = findFetched(source, identifier, link, title);
        if (item == NONE) {
            item = items.append(title, minute, timeFrom(told));
            if (item == NONE) {
                throw new IllegalStateException("there are 30 items");
            }
        } else {
            items.renew(item, title, threshold);
        }
        items.addTeller(item, source);
        items.claimPair(item, source, identifier);
        items.claimLink(item, link);
        return item;
    }

    public int items() {
        return items.size();
    }

    public int withIdentifier(int source, int identifier) throws NoSuchElementException {
        int item = items.ownerOfPair(source, identifier);
        if (item == NONE) {
            throw new NoSuchElementException("no item has this pair");
        }
        return item;
    }

    public int withLink(int link) throws NoSuchElementException {
        int item = items.ownerOfLink(link);
        if (item == NONE) {
            throw new NoSuchElementException("no item has this link");
        }
        return item;
    }

    public long title(int item, int version) throws IndexOutOfBoundsException, NoSuchElementException {
        requireItem(item);
        if (!items.keepsTitle(item, version)) {
            throw new NoSuchElementException("there is no such version, or its title is not kept");
        }
        return items.titleAt(item, version);
    }

    public int versions(int item) throws IndexOutOfBoundsException {
        requireItem(item);
        return items.versionCount(item);
    }

    public int latestMajor(int item) throws IndexOutOfBoundsException {
        requireItem(item);
        return items.major(item);
    }

    public int sourcesOf(int item) throws IndexOutOfBoundsException {
        requireItem(item);
        return items.tellers(item);
    }

    public int timeOf(int item) throws IndexOutOfBoundsException {
        requireItem(item);
        return items.time(item);
    }

    // ---- rules

    public int addRule(long all, long any, int sources, int tag, int action)
            throws IllegalArgumentException, IllegalStateException {
        if (sources < 0 || sources > ALL_SOURCES || !isTagOrNone(tag) || action < 0 || action > SHOW) {
            throw new IllegalArgumentException("the set of sources, the tag or the action is out of range");
        }
        int rule = rules.append(all, any, sources, tag, action);
        if (rule == NONE) {
            throw new IllegalStateException("there are 6 rules");
        }
        return rule;
    }

    public int dropRule(int rule) throws IndexOutOfBoundsException {
        requireRule(rule);
        rules.remove(rule);
        return rules.size();
    }

    public int tagsOf(int item) throws IndexOutOfBoundsException {
        requireItem(item);
        return outcomeOf(item) & ALL_TAGS;
    }

    public boolean isHidden(int item) throws IndexOutOfBoundsException {
        requireItem(item);
        return (outcomeOf(item) & HIDDEN) != 0;
    }

    public int matches(int rule) throws IndexOutOfBoundsException {
        requireRule(rule);
        int found = 0;
        for (int item = 0; item < items.size(); item++) {
            long title = items.latestTitle(item);
            int tellers = items.tellers(item);
            if (rules.holds(rule, title, tellers, rules.outcome(title, tellers, rule))) {
                found++;
            }
        }
        return found;
    }

    // ---- rivers

    public int addRiver(int sources, int tag) throws IllegalArgumentException, IllegalStateException {
        if (sources < 1 || sources > ALL_SOURCES || !isTagOrNone(tag)) {
            throw new IllegalArgumentException("the set of sources or the tag is out of range");
        }
        int river = rivers.append(sources, tag);
        if (river == NONE) {
            throw new IllegalStateException("there are 4 rivers");
        }
        return river;
    }

    public int riverSize(int river) throws IndexOutOfBoundsException {
        requireRiver(river);
        return gather(river, items.keptOrder(), shown);
    }

    public int riverAt(int river, int rank) throws IndexOutOfBoundsException, NoSuchElementException {
        requireRiver(river);
        return shownAt(river, rank, items.keptOrder());
    }

    public int riverAtAnew(int river, int rank) throws IndexOutOfBoundsException, NoSuchElementException {
        requireRiver(river);
        return shownAt(river, rank, items.orderAnew());
    }

    public int rankOf(int river, int item) throws IndexOutOfBoundsException, NoSuchElementException {
        requireRiver(river);
        requireItem(item);
        int size = gather(river, items.keptOrder(), shown);
        for (int rank = 0; rank < size; rank++) {
            if (shown[rank] == item) {
                return rank;
            }
        }
        throw new NoSuchElementException("the river does not show the item");
    }

    public int unread(int river) throws IndexOutOfBoundsException {
        requireRiver(river);
        return countUnread(gather(river, items.keptOrder(), shown));
    }

    public int nextUnread(int river) throws IndexOutOfBoundsException, NoSuchElementException {
        requireRiver(river);
        int size = gather(river, items.keptOrder(), shown);
        for (int rank = 0; rank < size; rank++) {
            if (!isReadByReader(shown[rank])) {
                return shown[rank];
            }
        }
        throw new NoSuchElementException("all items of the river are read");
    }

    public float readShare(int river) throws IndexOutOfBoundsException, ArithmeticException {
        requireRiver(river);
        int size = gather(river, items.keptOrder(), shown);
        if (size == 0) {
            throw new ArithmeticException("the river shows no items");
        }
        return (float) (size - countUnread(size)) / (float) size;
    }

    // ---- devices and marks

    public int addDevice() throws IllegalStateException {
        int device = devices.append();
        if (device == NONE) {
            throw new IllegalStateException("there are 4 devices");
        }
        for (int item = 0; item < items.size(); item++) {
            bringUpToDate(device, item);
        }
        return device;
    }

    public boolean mark(int device, int item, boolean isRead)
            throws IndexOutOfBoundsException, IllegalStateException {
        requireDevice(device);
        requireItem(item);
        requireKnown(device, item);
        return markKnown(device, item, isRead);
    }

    public int markRiver(int device, int river) throws IndexOutOfBoundsException {
        requireDevice(device);
        requireRiver(river);
        int size = gather(river, items.keptOrder(), shown);
        int turned = 0;
        for (int rank = 0; rank < size; rank++) {
            int item = shown[rank];
            if (devices.knows(device, item) && !markKnown(device, item, true)) {
                turned++;
            }
        }
        return turned;
    }

    public int sync(int device) throws IndexOutOfBoundsException {
        requireDevice(device);
        int turned = 0;
        for (int item = 0; item < items.size(); item++) {
            boolean before = isReadByReader(item);
            if (devices.knows(device, item) && marks.beats(device, READER, item)) {
                marks.copy(device, READER, item);
            }
            bringUpToDate(device, item);
            if (isReadByReader(item) != before) {
                turned++;
            }
        }
        return turned;
    }

    public boolean isRead(int item) throws IndexOutOfBoundsException {
        requireItem(item);
        return isReadByReader(item);
    }

    public boolean isReadOn(int device, int item) throws IndexOutOfBoundsException, IllegalStateException {
        requireDevice(device);
        requireItem(item);
        requireKnown(device, item);
        return isReadByDevice(device, item);
    }

    public int knownVersions(int device, int item) throws IndexOutOfBoundsException {
        requireDevice(device);
        requireItem(item);
        return devices.versionCount(device, item);
    }

    // ---- sums

    public double meanVersions() throws ArithmeticException {
        int count = items.size();
        if (count == 0) {
            throw new ArithmeticException("there are no items");
        }
        int sum = 0;
        for (int item = 0; item < count; item++) {
            sum += items.versionCount(item);
        }
        return (double) sum / (double) count;
    }

    public boolean isSound() {
        int[] anew = items.orderAnew();
        for (int river = 0; river < rivers.size(); river++) {
            if (!isSoundRiver(river, anew)) {
                return false;
            }
        }
        return true;
    }

    // ---- what a call may name

    private void requireItem(int item) {
        if (item < 0 || item >= items.size()) {
            throw new IndexOutOfBoundsException("there is no such item");
        }
    }

    private void requireRule(int rule) {
        if (rule < 0 || rule >= rules.size()) {
            throw new IndexOutOfBoundsException("there is no such rule");
        }
    }

    private void requireRiver(int river) {
        if (river < 0 || river >= rivers.size()) {
            throw new IndexOutOfBoundsException("there is no such river");
        }
    }

    private void requireDevice(int device) {
        if (device < 0 || device >= devices.size()) {
            throw new IndexOutOfBoundsException("there is no such device");
        }
    }

    private void requireKnown(int device, int item) {
        if (!devices.knows(device, item)) {
            throw new IllegalStateException("the device does not know the item");
        }
    }

    private static boolean isKeyOrNone(int key) {
        return key >= NONE && key < KEYS;
    }

    private static boolean isMinuteOrNone(int told) {
        return told >= NONE && told <= LAST_MINUTE;
    }

    private static boolean isTagOrNone(int tag) {
        return tag >= NONE && tag <= LAST_TAG;
    }

    // ---- fetching

    private static int percentInCommon(long title, long other) {
        int all = Long.bitCount(title | other);
        if (all == 0) {
            return 0;
        }
        return WHOLE * Long.bitCount(title & other) / all;
    }

    private int findFetched(int source, int identifier, int link, long title) {
        int item = items.ownerOfPair(source, identifier);
        if (item == NONE) {
            item = items.ownerOfLink(link);
        }
        if (item == NONE) {
            item = items.mostAlike(title, minute - window, threshold);
        }
        return item;
    }

    private int timeFrom(int told) {
        if (told == NONE || told > minute || minute - told > EARLIEST_TOLD) {
            return minute;
        }
        return told;
    }

    // ---- showing

    private static boolean hasTagOrNeedsNone(int state, int tag) {
        return tag == NONE || (state & 1 << tag) != 0;
    }

    private int outcomeOf(int item) {
        return rules.outcome(items.latestTitle(item), items.tellers(item), rules.size());
    }

    /** Puts the items that the river shows into the row, in the given order of all items, and returns how many. */
    private int gather(int river, int[] order, int[] row) {
        int size = 0;
        for (int place = 0; place < items.size(); place++) {
            int item = order[place];
            if (rivers.takes(river, items.tellers(item), outcomeOf(item))) {
                row[size] = item;
                size++;
            }
        }
        return size;
    }

    private int shownAt(int river, int rank, int[] order) {
        int size = gather(river, order, shown);
        if (rank < 0 || rank >= size) {
            throw new NoSuchElementException("there is no such rank");
        }
        return shown[rank];
    }

    private int countUnread(int size) {
        int count = 0;
        for (int rank = 0; rank < size; rank++) {
            if (!isReadByReader(shown[rank])) {
                count++;
            }
        }
        return count;
    }

    private boolean isSoundRiver(int river, int[] anew) {
        int size = gather(river, items.keptOrder(), shown);
        if (size != gather(river, anew, shownAnew)) {
            return false;
        }
        int met = 0;
        for (int rank = 0; rank < size; rank++) {
            int bit = 1 << shown[rank];
            if (shown[rank] != shownAnew[rank] || (met & bit) != 0) {
                return false;
            }
            met |= bit;
        }
        return true;
    }

    // ---- reading

    private boolean isReadByReader(int item) {
        return marks.saysRead(READER, item, items.major(item));
    }

    private boolean isReadByDevice(int device, int item) {
        return marks.saysRead(device, item, devices.major(device, item));
    }

    private boolean markKnown(int device, int item, boolean asRead) {
        boolean before = isReadByDevice(device, item);
        marks.put(device, item, asRead, minute, devices.versionCount(device, item) - 1);
        return before;
    }

    private void bringUpToDate(int device, int item) {
        marks.copy(READER, device, item);
        devices.learn(device, item, items.versionCount(item), items.major(item));
    }

    /** The items, what they have, and the order in which they are kept. */
    private static final class Items {
        private int count = 0;
        private final int[] seenAt = new int[MOST_ITEMS];
        private final int[] times = new int[MOST_ITEMS];
        private final int[] tellers = new int[MOST_ITEMS];
        private final int[] versionCounts = new int[MOST_ITEMS];
        private final int[] majors = new int[MOST_ITEMS];
        private final long[] titles = new long[MOST_ITEMS * KEPT_TITLES];
        private final int[] order = new int[MOST_ITEMS];
        private final int[] anew = new int[MOST_ITEMS];

        /** Owners are held as the item's number plus 1, so that a new row needs no filling with NONE. */
        private final int[] pairOwners = new int[MOST_SOURCES * KEYS];
        private final int[] linkOwners = new int[KEYS];

        int size() {
            return count;
        }

        int time(int item) {
            return times[item];
        }

        int tellers(int item) {
            return tellers[item];
        }

        int versionCount(int item) {
            return versionCounts[item];
        }

        int major(int item) {
            return majors[item];
        }

        boolean keepsTitle(int item, int version) {
            int next = versionCounts[item];
            return version >= 0 && version < next && version >= next - KEPT_TITLES;
        }

        long titleAt(int item, int version) {
            return titles[placeOfTitle(item, version)];
        }

        long latestTitle(int item) {
            return titleAt(item, versionCounts[item] - 1);
        }

        private static int placeOfTitle(int item, int version) {
            return item * KEPT_TITLES + Math.floorMod(version, KEPT_TITLES);
        }

        int ownerOfPair(int source, int identifier) {
            if (source < 0 || source >= MOST_SOURCES || identifier < 0 || identifier >= KEYS) {
                return NONE;
            }
            return pairOwners[source * KEYS + identifier] - 1;
        }

        int ownerOfLink(int link) {
            if (link < 0 || link >= KEYS) {
                return NONE;
            }
            return linkOwners[link] - 1;
        }

        int mostAlike(long title, int seenFrom, int threshold) {
            int best = NONE;
            int toBeat = threshold - 1;
            for (int item = 0; item < count; item++) {
                int percent = percentInCommon(title, latestTitle(item));
                if (seenAt[item] >= seenFrom && percent > toBeat) {
                    best = item;
                    toBeat = percent;
                }
            }
            return best;
        }

        /** Returns NONE if there is no room for the item. */
        int append(long title, int minute, int time) {
            if (count >= MOST_ITEMS) {
                return NONE;
            }
            int item = count;
            seenAt[item] = minute;
            times[item] = time;
            titles[placeOfTitle(item, 0)] = title;
            versionCounts[item] = 1;
            keepInOrder(item);
            count++;
            return item;
        }

        private void keepInOrder(int item) {
            int place = count;
            while (place > 0 && isAhead(item, order[place - 1])) {
                order[place] = order[place - 1];
                place--;
            }
            order[place] = item;
        }

        void renew(int item, long title, int threshold) {
            long latest = latestTitle(item);
            if (title == latest) {
                return;
            }
            int version = versionCounts[item];
            titles[placeOfTitle(item, version)] = title;
            versionCounts[item] = version + 1;
            if (percentInCommon(title, latest) < threshold) {
                majors[item] = version;
            }
        }

        void addTeller(int item, int source) {
            tellers[item] |= 1 << source;
        }

        void claimPair(int item, int source, int identifier) {
            if (identifier != NONE && ownerOfPair(source, identifier) == NONE) {
                pairOwners[source * KEYS + identifier] = item + 1;
            }
        }

        void claimLink(int item, int link) {
            if (link != NONE && ownerOfLink(link) == NONE) {
                linkOwners[link] = item + 1;
            }
        }

        int[] keptOrder() {
            return order;
        }

        /** Sorts by choosing, not by the kept order's own way, so that a fault of one shows against the other. */
        int[] orderAnew() {
            for (int item = 0; item < count; item++) {
                anew[item] = item;
            }
            for (int place = 0; place < count; place++) {
                int first = place;
                for (int other = place + 1; other < count; other++) {
                    if (isAhead(anew[other], anew[first])) {
                        first = other;
                    }
                }
                int chosen = anew[first];
                anew[first] = anew[place];
                anew[place] = chosen;
            }
            return anew;
        }

        private boolean isAhead(int item, int other) {
            if (times[item] != times[other]) {
                return times[item] > times[other];
            }
            return item > other;
        }
    }

    /** The rules, by rising numbers. */
    private static final class Rules {
        private int count = 0;
        private final long[] allWords = new long[MOST_RULES];
        private final long[] anyWords = new long[MOST_RULES];
        private final int[] sources = new int[MOST_RULES];
        private final int[] tags = new int[MOST_RULES];
        private final int[] actions = new int[MOST_RULES];

        int size() {
            return count;
        }

        /** Returns NONE if there is no room for the rule. */
        int append(long all, long any, int ofSources, int tag, int action) {
            if (count >= MOST_RULES) {
                return NONE;
            }
            allWords[count] = all;
            anyWords[count] = any;
            sources[count] = ofSources;
            tags[count] = tag;
            actions[count] = action;
            count++;
            return count - 1;
        }

        void remove(int dropped) {
            for (int rule = dropped; rule < count - 1; rule++) {
                allWords[rule] = allWords[rule + 1];
                anyWords[rule] = anyWords[rule + 1];
                sources[rule] = sources[rule + 1];
                tags[rule] = tags[rule + 1];
                actions[rule] = actions[rule + 1];
            }
            count--;
        }

        /** Returns what the rules with lower numbers make of an item: the bit k is the tag k, the bit HIDE hides. */
        int outcome(long title, int tellers, int below) {
            int state = 0;
            for (int rule = 0; rule < below; rule++) {
                if (holds(rule, title, tellers, state)) {
                    state = act(actions[rule], state);
                }
            }
            return state;
        }

        boolean holds(int rule, long title, int tellers, int state) {
            return (title & allWords[rule]) == allWords[rule]
                && (anyWords[rule] == 0 || (title & anyWords[rule]) != 0)
                && (sources[rule] == 0 || (tellers & sources[rule]) != 0)
                && hasTagOrNeedsNone(state, tags[rule]);
        }

        private static int act(int action, int state) {
            if (action == SHOW) {
                return state & ~HIDDEN;
            }
            return state | 1 << action;
        }
    }

    /** The rivers, which hold no items: what they show comes of the rules at each question. */
    private static final class Rivers {
        private int count = 0;
        private final int[] sources = new int[MOST_RIVERS];
        private final int[] tags = new int[MOST_RIVERS];

        int size() {
            return count;
        }

        /** Returns NONE if there is no room for the river. */
        int append(int ofSources, int tag) {
            if (count >= MOST_RIVERS) {
                return NONE;
            }
            sources[count] = ofSources;
            tags[count] = tag;
            count++;
            return count - 1;
        }

        boolean takes(int river, int tellers, int state) {
            return (state & HIDDEN) == 0
                && (tellers & sources[river]) != 0
                && hasTagOrNeedsNone(state, tags[river]);
        }
    }

    /** What each device knows: no later version changes which of the versions it knows is the latest major one. */
    private static final class Devices {
        private int count = 0;
        private final int[] versionCounts = new int[MOST_DEVICES * MOST_ITEMS];
        private final int[] majors = new int[MOST_DEVICES * MOST_ITEMS];

        int size() {
            return count;
        }

        /** Returns NONE if there is no room for the device. */
        int append() {
            if (count >= MOST_DEVICES) {
                return NONE;
            }
            count++;
            return count - 1;
        }

        boolean knows(int device, int item) {
            return versionCount(device, item) > 0;
        }

        int versionCount(int device, int item) {
            return versionCounts[device * MOST_ITEMS + item];
        }

        int major(int device, int item) {
            return majors[device * MOST_ITEMS + item];
        }

        void learn(int device, int item, int versionCount, int major) {
            versionCounts[device * MOST_ITEMS + item] = versionCount;
            majors[device * MOST_ITEMS + item] = major;
        }
    }

    /** The marks of all holders: the devices by their numbers, and the READER. */
    private static final class Marks {
        private static final int ABSENT = 0;
        private static final int UNREAD = 1;
        private static final int READ = 2;

        private final int[] kinds = new int[(MOST_DEVICES + 1) * MOST_ITEMS];
        private final int[] minutes = new int[(MOST_DEVICES + 1) * MOST_ITEMS];
        private final int[] versions = new int[(MOST_DEVICES + 1) * MOST_ITEMS];

        void put(int holder, int item, boolean asRead, int minute, int version) {
            int place = holder * MOST_ITEMS + item;
            kinds[place] = asRead ? READ : UNREAD;
            minutes[place] = minute;
            versions[place] = version;
        }

        void copy(int from, int to, int item) {
            int source = from * MOST_ITEMS + item;
            int target = to * MOST_ITEMS + item;
            kinds[target] = kinds[source];
            minutes[target] = minutes[source];
            versions[target] = versions[source];
        }

        boolean saysRead(int holder, int item, int major) {
            int place = holder * MOST_ITEMS + item;
            return kinds[place] == READ && versions[place] >= major;
        }

        boolean beats(int holder, int other, int item) {
            int mine = holder * MOST_ITEMS + item;
            int theirs = other * MOST_ITEMS + item;
            if (kinds[mine] == ABSENT || kinds[theirs] == ABSENT) {
                return kinds[mine] != ABSENT;
            }
            if (minutes[mine] != minutes[theirs]) {
                return minutes[mine] > minutes[theirs];
            }
            if (kinds[mine] != kinds[theirs]) {
                return kinds[mine] == READ;
            }
            return versions[mine] >= versions[theirs];
        }
    }
}
