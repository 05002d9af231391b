/**
 * For each parameter of the document: the first and the last number that is in its range, the numbers just beside
 * them, and the least and the greatest int. A number that counts things is looked at with none, with one, with some
 * and with as many as there can be.
 */
public final class FeedloomRanges extends Checks {
    public static void main(String[] args) {
        passMinutes();
        thresholdPercent();
        windowMinutes();
        likenessTitles();
        fetchSource();
        fetchIdentifier();
        fetchLink();
        fetchTitle();
        fetchTold();
        withIdentifierSource();
        withIdentifierIdentifier();
        withLinkLink();
        itemNumbers();
        titleVersion();
        ruleAllWords();
        ruleAnyWords();
        ruleSources();
        ruleTag();
        ruleAction();
        ruleNumbers();
        riverSources();
        riverTag();
        riverNumbers();
        riverRanks();
        deviceNumbers();
        end();
    }

    private interface Numbered {
        Object on(Reader x, int number);
    }

    private interface Made {
        Reader of(int count);
    }

    /** With so many things, the numbers from 0 have the given answers, and those on either side are refused. */
    private static void numbered(String what, Class<?> refusal, Made made, int[] counts, Numbered call, Numbered want) {
        promise(what);
        for (int count : counts) {
            for (int number : new int[] {-1, LEAST, count, count + 1, GREATEST}) {
                Reader x = made.of(count);
                refused(number + " of " + count, x, refusal, () -> call.on(x, number));
            }
            for (int number = 0; number < count; number++) {
                int n = number;
                Reader x = made.of(count);
                due(n + " of " + count, want.on(x, n), () -> call.on(x, n));
            }
        }
    }

    private static void outOfRange(Reader x, Numbered call, int... numbers) {
        for (int number : numbers) {
            refused("" + number, x, ARGUMENT, () -> call.on(x, number));
        }
    }

    // ---- time and settings

    private static void passMinutes() {
        promise("2 pass, minutes");
        Reader x = new Reader();
        x.pass(3);
        due("the first, 1", 4, () -> x.pass(1));
        due("2", 6, () -> x.pass(2));
        due("1999", 2005, () -> x.pass(1999));
        due("the last, 2000", 4005, () -> x.pass(2000));
        outOfRange(x, (y, n) -> y.pass(n), 0, -1, LEAST, 2001, 2002, GREATEST);
        due("as before", 4005, x::now);
    }

    private static void thresholdPercent() {
        promise("4 setThreshold, percent");
        Reader x = new Reader();
        due("the first, 1", 60, () -> x.setThreshold(1));
        due("2", 1, () -> x.setThreshold(2));
        due("99", 2, () -> x.setThreshold(99));
        due("the last, 100", 99, () -> x.setThreshold(100));
        due("100 was taken", 100, () -> x.setThreshold(40));
        outOfRange(x, (y, n) -> y.setThreshold(n), 0, -1, LEAST, 101, 102, GREATEST);
        due("as before", 40, () -> x.setThreshold(40));
    }

    private static void windowMinutes() {
        promise("5 setWindow, minutes");
        Reader x = new Reader();
        due("the first, 0", 180, () -> x.setWindow(0));
        due("1", 0, () -> x.setWindow(1));
        due("1439", 1, () -> x.setWindow(1439));
        due("the last, 1440", 1439, () -> x.setWindow(1440));
        due("1440 was taken", 1440, () -> x.setWindow(40));
        outOfRange(x, (y, n) -> y.setWindow(n), -1, -2, LEAST, 1441, 1442, GREATEST);
        due("as before", 40, () -> x.setWindow(40));
    }

    private static void likenessTitles() {
        promise("6 likeness, titles");
        Reader x = new Reader();
        refused("the first has no words", x, ARGUMENT, () -> x.likeness(0L, 1L));
        refused("the second has no words", x, ARGUMENT, () -> x.likeness(1L, 0L));
        refused("neither has words", x, ARGUMENT, () -> x.likeness(0L, 0L));
        refused("no words against all", x, ARGUMENT, () -> x.likeness(0L, -1L));
        refused("all words against none", x, ARGUMENT, () -> x.likeness(-1L, 0L));
        for (int word = 0; word < 64; word++) {
            long title = 1L << word;
            due("one word, " + word, 100, () -> x.likeness(title, title));
            due("one of 64, " + word, 1, () -> x.likeness(title, -1L));
        }
        due("all words", 100, () -> x.likeness(-1L, -1L));
        due("none of them in common", 0, () -> x.likeness(Long.MAX_VALUE, Long.MIN_VALUE));
    }

    // ---- sources and items

    private static void fetchSource() {
        numbered("8 fetch, source", INDEX, count -> withSources(count), new int[] {0, 1, 3, 6},
            (x, n) -> x.fetch(n, NONE, NONE, 1L, NONE), (x, n) -> 0);
        promise("8 fetch, the source that it told");
        for (int source = 0; source < 6; source++) {
            int s = source;
            Reader x = withSources(6);
            x.fetch(s, NONE, NONE, 1L, NONE);
            due("of " + s, 1 << s, () -> x.sourcesOf(0));
        }
    }

    private static void fetchIdentifier() {
        promise("8 fetch, identifier");
        for (int identifier : new int[] {0, 1, 998, 999}) {
            Reader x = withSources(1);
            x.fetch(0, NONE, NONE, 2L, NONE);
            due("fetched with " + identifier, 1, () -> x.fetch(0, identifier, NONE, 1L, NONE));
            due("has " + identifier, 1, () -> x.withIdentifier(0, identifier));
            due("found by " + identifier, 1, () -> x.fetch(0, identifier, NONE, 4L, NONE));
        }
        Reader x = withSources(1);
        due("NONE", 0, () -> x.fetch(0, NONE, NONE, 1L, NONE));
        due("NONE finds none", 1, () -> x.fetch(0, NONE, NONE, 2L, NONE));
        outOfRange(x, (y, n) -> y.fetch(0, n, 5, 4L, 0), -2, -3, LEAST, 1000, 1001, GREATEST);
        outOfRange(x, (y, n) -> y.fetch(0, n, NONE, 1L, NONE), -2, 1000);
        due("no item more", 2, x::items);
    }

    private static void fetchLink() {
        promise("8 fetch, link");
        for (int link : new int[] {0, 1, 998, 999}) {
            Reader x = withSources(1);
            x.fetch(0, NONE, NONE, 2L, NONE);
            due("fetched with " + link, 1, () -> x.fetch(0, NONE, link, 1L, NONE));
            due("has " + link, 1, () -> x.withLink(link));
            due("found by " + link, 1, () -> x.fetch(0, NONE, link, 4L, NONE));
        }
        Reader x = withSources(1);
        due("NONE", 0, () -> x.fetch(0, NONE, NONE, 1L, NONE));
        due("NONE finds none", 1, () -> x.fetch(0, NONE, NONE, 2L, NONE));
        outOfRange(x, (y, n) -> y.fetch(0, 5, n, 4L, 0), -2, -3, LEAST, 1000, 1001, GREATEST);
        outOfRange(x, (y, n) -> y.fetch(0, NONE, n, 1L, NONE), -2, 1000);
        due("no item more", 2, x::items);
    }

    private static void fetchTitle() {
        promise("8 fetch, title");
        Reader x = withSources(1);
        x.setThreshold(100);
        for (long title : new long[] {1L, 1L << 31, 1L << 32, Long.MIN_VALUE, Long.MAX_VALUE, -1L}) {
            int item = x.fetch(0, NONE, NONE, title, NONE);
            due("title of " + title, title, () -> x.title(item, 0));
            due("found by " + title, item, () -> x.fetch(0, NONE, NONE, title, NONE));
        }
        refused("no words", x, ARGUMENT, () -> x.fetch(0, 5, 5, 0L, NONE));
        x.fetch(0, 6, 6, 3L, NONE);
        refused("no words, found by its pair", x, ARGUMENT, () -> x.fetch(0, 6, NONE, 0L, NONE));
        refused("no words, found by its link", x, ARGUMENT, () -> x.fetch(0, NONE, 6, 0L, NONE));
        due("no version more", 1, () -> x.versions(6));
    }

    private static void fetchTold() {
        promise("8 fetch, told");
        Reader x = withSources(1);
        x.pass(1000);
        due("the first, 0", 0, () -> x.fetch(0, NONE, NONE, 1L, 0));
        due("has it as its time", 0, () -> x.timeOf(0));
        due("1", 1, () -> x.fetch(0, NONE, NONE, 2L, 1));
        due("has it as its time", 1, () -> x.timeOf(1));
        due("99998, later than now", 2, () -> x.fetch(0, NONE, NONE, 4L, 99998));
        due("the last, 99999", 3, () -> x.fetch(0, NONE, NONE, 8L, 99999));
        due("has the minute at which it was seen", 1000, () -> x.timeOf(3));
        due("NONE", 4, () -> x.fetch(0, NONE, NONE, 16L, NONE));
        due("has the minute at which it was seen", 1000, () -> x.timeOf(4));
        outOfRange(x, (y, n) -> y.fetch(0, 5, 5, 32L, n), -2, -3, LEAST, 100000, 100001, GREATEST);
        outOfRange(x, (y, n) -> y.fetch(0, NONE, NONE, 1L, n), -2, 100000);
        due("no item more", 5, x::items);
    }

    private static void withIdentifierSource() {
        promise("10 withIdentifier, source");
        Reader x = withSources(6);
        for (int source = 0; source < 6; source++) {
            x.fetch(source, 0, NONE, 1L << 2 * source, NONE);
            x.fetch(source, 999, NONE, 2L << 2 * source, NONE);
        }
        for (int source = 0; source < 6; source++) {
            int s = source;
            due("0 of " + s, 2 * s, () -> x.withIdentifier(s, 0));
            due("999 of " + s, 2 * s + 1, () -> x.withIdentifier(s, 999));
            due("1000 is not the next one's 0, of " + s, ELEMENT, () -> x.withIdentifier(s, 1000));
            due("-1 is not the one before's 999, of " + s, ELEMENT, () -> x.withIdentifier(s, -1));
            due("2000 is no one's, of " + s, ELEMENT, () -> x.withIdentifier(s, 2000));
        }
        for (int source : new int[] {-1, LEAST, 6, 7, GREATEST}) {
            refused("0 of " + source, x, ELEMENT, () -> x.withIdentifier(source, 0));
            refused("999 of " + source, x, ELEMENT, () -> x.withIdentifier(source, 999));
        }
        due("a product beyond the ints", ELEMENT, () -> x.withIdentifier(4294967, 296));
        due("a product below the ints", ELEMENT, () -> x.withIdentifier(-4294967, -296));
        due("1000 of -1 is not 0 of 0", ELEMENT, () -> x.withIdentifier(-1, 1000));
        due("-1 of 6 is not 999 of 5", ELEMENT, () -> x.withIdentifier(6, -1));
        Reader y = withSources(2);
        y.fetch(1, 7, NONE, 1L, NONE);
        due("a source that exists and has not this one", ELEMENT, () -> y.withIdentifier(0, 7));
        due("a source that does not exist yet", ELEMENT, () -> y.withIdentifier(2, 7));
    }

    private static void withIdentifierIdentifier() {
        promise("10 withIdentifier, identifier");
        Reader x = withSources(1);
        for (int identifier : new int[] {-1, 0, 1, 999, 1000, LEAST, GREATEST}) {
            refused("no items, " + identifier, x, ELEMENT, () -> x.withIdentifier(0, identifier));
        }
        x.fetch(0, NONE, 4, 1L, NONE);
        due("NONE, with an item that has none", ELEMENT, () -> x.withIdentifier(0, NONE));
        due("a link is no identifier", ELEMENT, () -> x.withIdentifier(0, 4));
        x.fetch(0, 500, NONE, 2L, NONE);
        due("499", ELEMENT, () -> x.withIdentifier(0, 499));
        due("500", 1, () -> x.withIdentifier(0, 500));
        due("501", ELEMENT, () -> x.withIdentifier(0, 501));
    }

    private static void withLinkLink() {
        promise("11 withLink, link");
        Reader x = withSources(1);
        for (int link : new int[] {-1, 0, 1, 999, 1000, LEAST, GREATEST}) {
            refused("no items, " + link, x, ELEMENT, () -> x.withLink(link));
        }
        x.fetch(0, 4, NONE, 1L, NONE);
        due("NONE, with an item that has none", ELEMENT, () -> x.withLink(NONE));
        due("an identifier is no link", ELEMENT, () -> x.withLink(4));
        x.fetch(0, NONE, 0, 2L, NONE);
        x.fetch(0, NONE, 999, 4L, NONE);
        due("0", 1, () -> x.withLink(0));
        due("1", ELEMENT, () -> x.withLink(1));
        due("998", ELEMENT, () -> x.withLink(998));
        due("999", 2, () -> x.withLink(999));
        due("1000", ELEMENT, () -> x.withLink(1000));
        due("-1 is not the last", ELEMENT, () -> x.withLink(-1));
    }

    /**
     * Items with their numbers as their times. The first and each third behind it have two versions, the odd ones are
     * read, the item 3 is hidden, those of the source 0 have the tag 7; the device knows them all.
     */
    private static Reader withItems(int count) {
        Reader x = withSources(6);
        x.pass(100);
        for (int i = 0; i < count; i++) {
            x.fetch(i % 6, i, i, apart(i), i);
            if (i % 3 == 0) {
                x.fetch(i % 6, i, i, 1L << 2 * i, NONE);
            }
        }
        x.addRule(0L, 0L, 1, NONE, 7);
        x.addRule(0L, apart(3), 0, NONE, HIDE);
        x.addRiver(63, NONE);
        x.addDevice();
        for (int i = 1; i < count; i += 2) {
            x.mark(0, i, true);
        }
        x.sync(0);
        return x;
    }

    private static void itemNumbers() {
        int[] counts = {0, 1, 7, 30};
        numbered("12 title, item", INDEX, count -> withItems(count), counts,
            (x, n) -> x.title(n, 0), (x, n) -> apart(n));
        numbered("13 versions, item", INDEX, count -> withItems(count), counts,
            (x, n) -> x.versions(n), (x, n) -> n % 3 == 0 ? 2 : 1);
        numbered("14 latestMajor, item", INDEX, count -> withItems(count), counts,
            (x, n) -> x.latestMajor(n), (x, n) -> n % 3 == 0 ? 1 : 0);
        numbered("15 sourcesOf, item", INDEX, count -> withItems(count), counts,
            (x, n) -> x.sourcesOf(n), (x, n) -> 1 << n % 6);
        numbered("16 timeOf, item", INDEX, count -> withItems(count), counts,
            (x, n) -> x.timeOf(n), (x, n) -> n);
        numbered("19 tagsOf, item", INDEX, count -> withItems(count), counts,
            (x, n) -> x.tagsOf(n), (x, n) -> n % 6 == 0 ? 128 : 0);
        numbered("20 isHidden, item", INDEX, count -> withItems(count), counts,
            (x, n) -> x.isHidden(n), (x, n) -> n == 3);
        numbered("26 rankOf, item", INDEX, count -> withItems(count), counts,
            (x, n) -> x.rankOf(0, n), (x, n) -> rankAmong(x.items(), n));
        numbered("31 mark, item", INDEX, count -> withItems(count), counts,
            (x, n) -> x.mark(0, n, true), (x, n) -> n % 2 == 1);
        numbered("34 isRead, item", INDEX, count -> withItems(count), counts,
            (x, n) -> x.isRead(n), (x, n) -> n % 2 == 1);
        numbered("35 isReadOn, item", INDEX, count -> withItems(count), counts,
            (x, n) -> x.isReadOn(0, n), (x, n) -> n % 2 == 1);
        numbered("36 knownVersions, item", INDEX, count -> withItems(count), counts,
            (x, n) -> x.knownVersions(0, n), (x, n) -> n % 3 == 0 ? 2 : 1);
    }

    private static Object rankAmong(int count, int item) {
        if (item == 3) {
            return ELEMENT;
        }
        int behind = count - 1 - item;
        return item < 3 && count > 3 ? behind - 1 : behind;
    }

    private static Reader withVersions(int count) {
        Reader x = withSources(1);
        for (int version = 0; version < count; version++) {
            x.fetch(0, 1, NONE, version + 1L, NONE);
        }
        return x;
    }

    private static void titleVersion() {
        promise("12 title, version");
        for (int count : new int[] {1, 2, 3, 4, 5, 6, 7, 8, 9, 100, 250}) {
            Reader x = withVersions(count);
            for (int version = 0; version < count; version++) {
                int v = version;
                Object want = v >= count - 4 ? (Object) (v + 1L) : ELEMENT;
                due(v + " of " + count, want, () -> x.title(0, v));
            }
        }
        for (int count : new int[] {1, 3, 4, 5, 8}) {
            Reader x = withVersions(count);
            for (int version : new int[] {-1, -4, LEAST, count, count + 1, count + 4, GREATEST}) {
                refused(version + " of " + count, x, ELEMENT, () -> x.title(0, version));
            }
        }
        for (int count : new int[] {5, 6, 8, 9}) {
            Reader x = withVersions(count);
            refused("the last that is not kept of " + count, x, ELEMENT, () -> x.title(0, count - 5));
            due("the first that is kept of " + count, count - 3L, () -> x.title(0, count - 4));
        }
    }

    // ---- rules

    /** The item 0 has the word 0 alone, 1 the word 63 alone, 2 all but 63, 3 all; of the sources 0, 1, 2 and 5. */
    private static Reader withWords() {
        Reader x = withSources(6);
        x.setThreshold(100);
        x.fetch(0, NONE, NONE, 1L, NONE);
        x.fetch(1, NONE, NONE, Long.MIN_VALUE, NONE);
        x.fetch(2, NONE, NONE, Long.MAX_VALUE, NONE);
        x.fetch(5, NONE, NONE, -1L, NONE);
        return x;
    }

    /** The rule, added to an object of its own, holds for exactly the items of the set. */
    private static void holdsFor(String what, int items, long all, long any, int sources) {
        Reader x = withWords();
        due(what + ", its number", 0, () -> x.addRule(all, any, sources, NONE, 7));
        for (int item = 0; item < 4; item++) {
            int i = item;
            due(what + ", item " + i, (items >> i & 1) * 128, () -> x.tagsOf(i));
        }
        due(what + ", matches", Integer.bitCount(items), () -> x.matches(0));
    }

    private static void ruleAllWords() {
        promise("17 addRule, all");
        holdsFor("empty", 0b1111, 0L, 0L, 0);
        holdsFor("the word 0", 0b1101, 1L, 0L, 0);
        holdsFor("the word 31", 0b1100, 1L << 31, 0L, 0);
        holdsFor("the word 32", 0b1100, 1L << 32, 0L, 0);
        holdsFor("the word 62", 0b1100, 1L << 62, 0L, 0);
        holdsFor("the word 63", 0b1010, Long.MIN_VALUE, 0L, 0);
        holdsFor("the words 0 and 63", 0b1000, Long.MIN_VALUE | 1L, 0L, 0);
        holdsFor("all but 63", 0b1100, Long.MAX_VALUE, 0L, 0);
        holdsFor("all", 0b1000, -1L, 0L, 0);
    }

    private static void ruleAnyWords() {
        promise("17 addRule, any");
        holdsFor("the word 0", 0b1101, 0L, 1L, 0);
        holdsFor("the word 31", 0b1100, 0L, 1L << 31, 0);
        holdsFor("the word 32", 0b1100, 0L, 1L << 32, 0);
        holdsFor("the word 62", 0b1100, 0L, 1L << 62, 0);
        holdsFor("the word 63", 0b1010, 0L, Long.MIN_VALUE, 0);
        holdsFor("the words 0 and 63", 0b1111, 0L, Long.MIN_VALUE | 1L, 0);
        holdsFor("all but 63", 0b1101, 0L, Long.MAX_VALUE, 0);
        holdsFor("all", 0b1111, 0L, -1L, 0);
        holdsFor("with an all set", 0b0100 | 0b1000, 2L, 1L, 0);
        holdsFor("apart from the all set", 0b1000, 1L, Long.MIN_VALUE, 0);
    }

    private static void ruleSources() {
        promise("17 addRule, sources");
        holdsFor("the first, 0, which is empty", 0b1111, 0L, 0L, 0);
        holdsFor("1", 0b0001, 0L, 0L, 1);
        holdsFor("2", 0b0010, 0L, 0L, 2);
        holdsFor("16, which has told nothing", 0, 0L, 0L, 16);
        holdsFor("32", 0b1000, 0L, 0L, 32);
        holdsFor("31", 0b0111, 0L, 0L, 31);
        holdsFor("62", 0b1110, 0L, 0L, 62);
        holdsFor("the last, 63", 0b1111, 0L, 0L, 63);
        outOfRange(withWords(), (y, n) -> y.addRule(0L, 0L, n, NONE, 7), -1, -2, LEAST, 64, 65, 127, GREATEST);
        Reader x = withSources(1);
        x.fetch(0, NONE, NONE, 1L, NONE);
        due("a source that does not exist", 0, () -> x.addRule(0L, 0L, 32, NONE, 1));
        due("holds for none", 0, () -> x.matches(0));
        for (int source = 1; source < 6; source++) {
            x.addSource();
        }
        due("holds for none as it exists", 0, () -> x.matches(0));
        x.fetch(5, NONE, NONE, 1L, NONE);
        due("holds as it has told", 1, () -> x.matches(0));
    }

    private static void ruleTag() {
        promise("17 addRule, tag");
        for (int tag = 0; tag < 8; tag++) {
            int t = tag;
            Reader x = withWords();
            x.addRule(1L, 0L, 0, NONE, t);
            due("needs " + t, 1, () -> x.addRule(0L, 0L, 0, t, (t + 1) % 8));
            due("holds with it", 1 << t | 1 << (t + 1) % 8, () -> x.tagsOf(0));
            due("does not hold without it", 0, () -> x.tagsOf(1));
            due("matches", 3, () -> x.matches(1));
            due("needs another", 2, () -> x.addRule(0L, 0L, 0, (t + 2) % 8, 0));
            due("matches none", 0, () -> x.matches(2));
        }
        Reader x = withWords();
        due("NONE", 0, () -> x.addRule(0L, 0L, 0, NONE, 5));
        due("NONE holds for all", 4, () -> x.matches(0));
        outOfRange(x, (y, n) -> y.addRule(0L, 0L, 0, n, 7), -2, -3, LEAST, 8, 9, 31, 32, 63, 64, GREATEST);
    }

    private static void ruleAction() {
        promise("17 addRule, action");
        for (int action = 0; action <= 7; action++) {
            int a = action;
            Reader x = withWords();
            due("gives " + a, 0, () -> x.addRule(0L, 0L, 0, NONE, a));
            due("the tag " + a, 1 << a, () -> x.tagsOf(3));
            due("is not hidden by " + a, false, () -> x.isHidden(3));
        }
        Reader x = withWords();
        due("8 hides", 0, () -> x.addRule(0L, 0L, 0, NONE, 8));
        due("hidden", true, () -> x.isHidden(3));
        due("without tags", 0, () -> x.tagsOf(3));
        due("9 shows", 1, () -> x.addRule(0L, 0L, 0, NONE, 9));
        due("shown", false, () -> x.isHidden(3));
        due("without tags still", 0, () -> x.tagsOf(3));
        outOfRange(x, (y, n) -> y.addRule(0L, 0L, 0, NONE, n), -1, -2, LEAST, 10, 11, 32, 40, GREATEST);
    }

    /** The rule n gives the tag n to the items from n on, of which there are 6. */
    private static Reader withRules(int count) {
        Reader x = withSources(1);
        for (int item = 0; item < 6; item++) {
            x.fetch(0, NONE, NONE, 1L << item, NONE);
        }
        for (int rule = 0; rule < count; rule++) {
            x.addRule(0L, -1L << rule, 0, NONE, rule);
        }
        return x;
    }

    private static void ruleNumbers() {
        int[] counts = {0, 1, 3, 6};
        numbered("18 dropRule, rule", INDEX, count -> withRules(count), counts,
            (x, n) -> x.dropRule(n) * 1000 + x.tagsOf(5),
            (x, n) -> tagsWithout(x.anew().tagsOf(5), n));
        numbered("21 matches, rule", INDEX, count -> withRules(count), counts,
            (x, n) -> x.matches(n), (x, n) -> 6 - n);
    }

    /** The item 5 has the tags of all rules: their number is that of the rules. */
    private static int tagsWithout(int tags, int rule) {
        return (Integer.bitCount(tags) - 1) * 1000 + (tags & ~(1 << rule));
    }

    // ---- rivers

    private static void riverSources() {
        promise("22 addRiver, sources");
        for (int sources = 1; sources <= 63; sources++) {
            int s = sources;
            Reader x = withWords();
            due("number of " + s, 0, () -> x.addRiver(s, NONE));
            due("size of " + s, Integer.bitCount(s & 0b100111), () -> x.riverSize(0));
        }
        outOfRange(withWords(), (y, n) -> y.addRiver(n, NONE), 0, -1, -2, LEAST, 64, 65, 127, GREATEST);
        Reader x = withSources(1);
        x.fetch(0, NONE, NONE, 1L, NONE);
        due("a source that does not exist", 0, () -> x.addRiver(32, NONE));
        due("shows none", 0, () -> x.riverSize(0));
        for (int source = 1; source < 6; source++) {
            x.addSource();
        }
        x.fetch(5, NONE, NONE, 1L, NONE);
        due("shows what it has told", 1, () -> x.riverSize(0));
    }

    private static void riverTag() {
        promise("22 addRiver, tag");
        for (int tag = 0; tag < 8; tag++) {
            int t = tag;
            Reader x = withWords();
            x.addRule(1L, 0L, 0, NONE, t);
            x.addRule(0L, 0L, 2, NONE, (t + 1) % 8);
            due("of " + t, 0, () -> x.addRiver(63, t));
            due("size of " + t, 3, () -> x.riverSize(0));
            due("of the next one", 1, () -> x.addRiver(63, (t + 1) % 8));
            due("shows it", 1, () -> x.riverAt(1, 0));
            due("of one that no item has", 2, () -> x.addRiver(63, (t + 2) % 8));
            due("shows none", 0, () -> x.riverSize(2));
        }
        Reader x = withWords();
        x.addRule(1L, 0L, 0, NONE, HIDE);
        due("NONE", 0, () -> x.addRiver(63, NONE));
        due("size with NONE", 1, () -> x.riverSize(0));
        outOfRange(x, (y, n) -> y.addRiver(63, n), -2, -3, LEAST, 8, 9, 31, 32, 40, 63, 64, GREATEST);
    }

    /** The river n shows the items 0 to n alone, the last of them first; the item 0 is read for the reader. */
    private static Reader withRivers(int count) {
        Reader x = withSources(6);
        for (int item = 0; item < 4; item++) {
            for (int source = item; source < 6; source++) {
                x.fetch(source, NONE, item, apart(item), NONE);
            }
        }
        for (int river = 0; river < count; river++) {
            x.addRiver(1 << river, NONE);
        }
        x.addDevice();
        x.mark(0, 0, true);
        x.sync(0);
        return x;
    }

    private static void riverNumbers() {
        int[] counts = {0, 1, 2, 4};
        numbered("23 riverSize, river", INDEX, count -> withRivers(count), counts,
            (x, n) -> x.riverSize(n), (x, n) -> n + 1);
        numbered("24 riverAt, river", INDEX, count -> withRivers(count), counts,
            (x, n) -> x.riverAt(n, 0), (x, n) -> n);
        numbered("25 riverAtAnew, river", INDEX, count -> withRivers(count), counts,
            (x, n) -> x.riverAtAnew(n, 0), (x, n) -> n);
        numbered("26 rankOf, river", INDEX, count -> withRivers(count), counts,
            (x, n) -> x.rankOf(n, 0), (x, n) -> n);
        numbered("27 unread, river", INDEX, count -> withRivers(count), counts,
            (x, n) -> x.unread(n), (x, n) -> n);
        numbered("28 nextUnread, river", INDEX, count -> withRivers(count), counts,
            (x, n) -> x.nextUnread(n), (x, n) -> n == 0 ? (Object) ELEMENT : (Object) n);
        numbered("29 readShare, river", INDEX, count -> withRivers(count), counts,
            (x, n) -> x.readShare(n), (x, n) -> 1.0f / (float) (n + 1));
        numbered("32 markRiver, river", INDEX, count -> withRivers(count), counts,
            (x, n) -> x.markRiver(0, n), (x, n) -> n);
    }

    private static Reader riverOf(int size) {
        Reader x = withSources(1);
        x.addRiver(1, NONE);
        for (int item = 0; item < size; item++) {
            x.fetch(0, NONE, NONE, apart(item), NONE);
        }
        return x;
    }

    private static void riverRanks() {
        int[] sizes = {0, 1, 2, 29, 30};
        numbered("24 riverAt, rank", ELEMENT, size -> riverOf(size), sizes,
            (x, rank) -> x.riverAt(0, rank), (x, rank) -> x.items() - 1 - rank);
        numbered("25 riverAtAnew, rank", ELEMENT, size -> riverOf(size), sizes,
            (x, rank) -> x.riverAtAnew(0, rank), (x, rank) -> x.items() - 1 - rank);
    }

    // ---- devices and marks

    /** The device n knows n + 1 versions of the item 0, the only one; it is marked as read on the device 0 alone. */
    private static Reader withDevices(int count) {
        Reader x = withSources(1);
        x.addRiver(1, NONE);
        for (int device = 0; device < count; device++) {
            x.fetch(0, NONE, 1, 1L << device, NONE);
            x.addDevice();
        }
        if (count > 0) {
            x.mark(0, 0, true);
        } else {
            x.fetch(0, NONE, 1, 1L, NONE);
        }
        return x;
    }

    private static void deviceNumbers() {
        int[] counts = {0, 1, 2, 4};
        numbered("31 mark, device", INDEX, count -> withDevices(count), counts,
            (x, n) -> x.mark(n, 0, false), (x, n) -> n == 0);
        numbered("32 markRiver, device", INDEX, count -> withDevices(count), counts,
            (x, n) -> x.markRiver(n, 0), (x, n) -> n == 0 ? 0 : 1);
        numbered("33 sync, device", INDEX, count -> withDevices(count), counts,
            (x, n) -> x.sync(n), (x, n) -> n == 0 && x.versions(0) == 1 ? 1 : 0);
        numbered("35 isReadOn, device", INDEX, count -> withDevices(count), counts,
            (x, n) -> x.isReadOn(n, 0), (x, n) -> n == 0);
        numbered("36 knownVersions, device", INDEX, count -> withDevices(count), counts,
            (x, n) -> x.knownVersions(n, 0), (x, n) -> n + 1);
    }
}
