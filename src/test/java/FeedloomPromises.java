/** A test or more for each promise of the document: ordinary inputs, the named edges and wrong inputs. */
public final class FeedloomPromises extends Checks {
    public static void main(String[] args) {
        newObject();
        pass();
        now();
        setThreshold();
        setWindow();
        likeness();
        addSource();
        fetchRefuses();
        fetchFindsByPair();
        fetchFindsByLink();
        fetchFindsByLikeness();
        fetchWindow();
        fetchGivesPairsAndLinks();
        fetchGivesVersions();
        items();
        withIdentifier();
        withLink();
        title();
        versions();
        latestMajor();
        sourcesOf();
        timeOf();
        addRule();
        dropRule();
        tagsOf();
        isHidden();
        matches();
        addRiver();
        riverSize();
        riverAt();
        rankOf();
        unread();
        nextUnread();
        readShare();
        addDevice();
        mark();
        markRiver();
        syncKinds();
        syncMinutes();
        syncVersions();
        syncUnknown();
        isRead();
        isReadOn();
        knownVersions();
        meanVersions();
        isSound();
        fullHouse();
        constants();
        end();
    }

    // ---- time and settings

    private static void newObject() {
        promise("1 Feedloom()");
        Reader x = new Reader();
        due("now", 0, x::now);
        due("items", 0, x::items);
        due("no source", INDEX, () -> x.fetch(0, NONE, NONE, 1L, NONE));
        due("no rule", INDEX, () -> x.matches(0));
        due("no river", INDEX, () -> x.riverSize(0));
        due("no device", INDEX, () -> x.sync(0));
        due("threshold", 60, () -> x.setThreshold(60));
        due("window", 180, () -> x.setWindow(180));
        due("sound", true, x::isSound);
    }

    private static void pass() {
        promise("2 pass");
        Reader x = new Reader();
        due("1", 1, () -> x.pass(1));
        due("2000", 2001, () -> x.pass(2000));
        refused("0", x, ARGUMENT, () -> x.pass(0));
        refused("-1", x, ARGUMENT, () -> x.pass(-1));
        refused("2001", x, ARGUMENT, () -> x.pass(2001));
        refused("least", x, ARGUMENT, () -> x.pass(Integer.MIN_VALUE));
        refused("greatest", x, ARGUMENT, () -> x.pass(Integer.MAX_VALUE));
        for (int i = 0; i < 48; i++) {
            x.pass(2000);
        }
        due("to 99998", 99998, () -> x.pass(1997));
        refused("beyond the last minute", x, STATE, () -> x.pass(2));
        due("to 99999", 99999, () -> x.pass(1));
        refused("behind the last minute", x, STATE, () -> x.pass(1));
        refused("out of range comes first", x, ARGUMENT, () -> x.pass(2001));
    }

    private static void now() {
        promise("3 now");
        Reader x = new Reader();
        x.pass(7);
        x.pass(35);
        due("42", 42, x::now);
        due("42 again", 42, x::now);
    }

    private static void setThreshold() {
        promise("4 setThreshold");
        Reader x = withSources(1);
        due("first", 60, () -> x.setThreshold(1));
        due("second", 1, () -> x.setThreshold(100));
        due("third", 100, () -> x.setThreshold(50));
        refused("0", x, ARGUMENT, () -> x.setThreshold(0));
        refused("101", x, ARGUMENT, () -> x.setThreshold(101));
        due("kept", 50, () -> x.setThreshold(50));
        x.fetch(0, 1, NONE, 3L, NONE);
        x.fetch(0, 1, NONE, 7L, NONE);
        due("66 is alike at 50", 0, () -> x.latestMajor(0));
        x.setThreshold(67);
        due("majors stay", 0, () -> x.latestMajor(0));
        due("items stay", 1, x::items);
        due("66 is not alike at 67", 1, () -> x.fetch(0, NONE, NONE, 3L, NONE));
        x.setThreshold(66);
        due("66 is alike at 66", 0, () -> x.fetch(0, 1, NONE, 15L, NONE));
        due("75 at 66", 0, () -> x.latestMajor(0));
    }

    private static void setWindow() {
        promise("5 setWindow");
        Reader x = new Reader();
        due("first", 180, () -> x.setWindow(0));
        due("second", 0, () -> x.setWindow(1440));
        due("third", 1440, () -> x.setWindow(5));
        refused("-1", x, ARGUMENT, () -> x.setWindow(-1));
        refused("1441", x, ARGUMENT, () -> x.setWindow(1441));
        due("kept", 5, () -> x.setWindow(5));
    }

    private static void likeness() {
        promise("6 likeness");
        Reader x = new Reader();
        due("same", 100, () -> x.likeness(5L, 5L));
        due("apart", 0, () -> x.likeness(1L, 2L));
        due("1 of 3, down", 33, () -> x.likeness(3L, 5L));
        due("2 of 3, down", 66, () -> x.likeness(3L, 7L));
        due("word 63", 50, () -> x.likeness(Long.MIN_VALUE, Long.MIN_VALUE | 1L));
        due("all words", 98, () -> x.likeness(-1L, Long.MAX_VALUE));
        due("1 of 64", 1, () -> x.likeness(-1L, 1L << 40));
        due("first empty", ARGUMENT, () -> x.likeness(0L, 1L));
        due("second empty", ARGUMENT, () -> x.likeness(1L, 0L));
        due("both empty", ARGUMENT, () -> x.likeness(0L, 0L));
    }

    // ---- sources and items

    private static void addSource() {
        promise("7 addSource");
        Reader x = new Reader();
        for (int i = 0; i < 6; i++) {
            due("source", i, x::addSource);
        }
        refused("the seventh", x, STATE, x::addSource);
        due("the sixth tells", 0, () -> x.fetch(5, 0, 0, 1L, 0));
        due("no seventh", INDEX, () -> x.fetch(6, 0, 0, 1L, 0));
    }

    private static void fetchRefuses() {
        promise("8 fetch refuses");
        Reader x = withSources(2);
        x.fetch(0, 0, 999, 1L, 99999);
        x.fetch(1, 999, 0, 2L, 0);
        refused("source -1", x, INDEX, () -> x.fetch(-1, 1, 1, 4L, 0));
        refused("source 2", x, INDEX, () -> x.fetch(2, 1, 1, 4L, 0));
        refused("source ahead of the rest", x, INDEX, () -> x.fetch(2, -2, 1000, 0L, -2));
        refused("identifier -2", x, ARGUMENT, () -> x.fetch(0, -2, 1, 4L, 0));
        refused("identifier 1000", x, ARGUMENT, () -> x.fetch(0, 1000, 1, 4L, 0));
        refused("link -2", x, ARGUMENT, () -> x.fetch(0, 1, -2, 4L, 0));
        refused("link 1000", x, ARGUMENT, () -> x.fetch(0, 1, 1000, 4L, 0));
        refused("told -2", x, ARGUMENT, () -> x.fetch(0, 1, 1, 4L, -2));
        refused("told 100000", x, ARGUMENT, () -> x.fetch(0, 1, 1, 4L, 100000));
        refused("no words", x, ARGUMENT, () -> x.fetch(0, 1, 1, 0L, 0));
        for (int i = 2; i < 30; i++) {
            x.fetch(0, i, NONE, 3L << 2 * i, NONE);
        }
        refused("the thirty-first", x, STATE, () -> x.fetch(0, 50, 5, 3L << 60, NONE));
        refused("arguments ahead of room", x, ARGUMENT, () -> x.fetch(0, 50, 5, 0L, NONE));
        due("found at 30 items", 29, () -> x.fetch(0, 29, NONE, 5L, NONE));
        due("still 30", 30, x::items);
    }

    private static void fetchFindsByPair() {
        promise("8 fetch by pair");
        Reader x = withSources(2);
        due("new", 0, () -> x.fetch(0, 5, 1, 1L, NONE));
        due("new of the other source", 1, () -> x.fetch(1, 5, 2, 2L, NONE));
        due("pair of 0", 0, () -> x.fetch(0, 5, NONE, 4L, NONE));
        due("pair of 1", 1, () -> x.fetch(1, 5, NONE, 8L, NONE));
        due("pair ahead of link", 0, () -> x.fetch(0, 5, 2, 16L, NONE));
        due("pair ahead of likeness", 0, () -> x.fetch(0, 5, NONE, 8L, NONE));
        x.pass(2000);
        due("pair at any time", 1, () -> x.fetch(1, 5, NONE, 32L, NONE));
        due("two items", 2, x::items);
    }

    private static void fetchFindsByLink() {
        promise("8 fetch by link");
        Reader x = withSources(2);
        x.fetch(0, 1, 7, 1L, NONE);
        x.fetch(0, 2, 8, 2L, NONE);
        due("link ahead of likeness", 0, () -> x.fetch(1, 3, 7, 2L, NONE));
        due("the new pair", 0, () -> x.withIdentifier(1, 3));
        x.pass(2000);
        due("link at any time", 1, () -> x.fetch(1, NONE, 8, 64L, NONE));
        due("no link is no link", 2, () -> x.fetch(1, NONE, NONE, 128L, NONE));
        due("nor afterwards", 3, () -> x.fetch(1, NONE, NONE, 256L, NONE));
    }

    private static void fetchFindsByLikeness() {
        promise("8 fetch by likeness");
        Reader x = withSources(2);
        x.setThreshold(50);
        x.fetch(0, 1, NONE, 0b1111L, NONE);
        x.fetch(0, 2, NONE, 0b1111_0000L, NONE);
        due("exactly 50", 0, () -> x.fetch(1, 3, NONE, 0b11L, NONE));
        due("its latest version counts", 2, () -> x.fetch(1, 4, NONE, 0b1100L, NONE));
        Reader z = withSources(1);
        z.setThreshold(50);
        z.fetch(0, 1, NONE, (1L << 27) - 1, NONE);
        due("27 of 55 words are 49, too little at 50", 1, () -> z.fetch(0, 2, NONE, (1L << 55) - 1, NONE));
        Reader w = withSources(1);
        w.setThreshold(49);
        w.fetch(0, 1, NONE, (1L << 27) - 1, NONE);
        due("and enough at 49", 0, () -> w.fetch(0, 2, NONE, (1L << 55) - 1, NONE));
        Reader y = withSources(1);
        y.setThreshold(20);
        y.fetch(0, 1, NONE, 0b0000_0011L, NONE);
        y.fetch(0, 2, NONE, 0b0000_1100L, NONE);
        y.fetch(0, 3, NONE, 0b0111_0000L, NONE);
        due("of equals the lowest number", 0, () -> y.fetch(0, NONE, NONE, 0b0000_1111L, NONE));
        due("the greatest likeness", 2, () -> y.fetch(0, NONE, NONE, 0b0111_1100L, NONE));
    }

    private static void fetchWindow() {
        promise("8 fetch window");
        Reader x = withSources(1);
        x.fetch(0, NONE, NONE, 1L, NONE);
        x.pass(180);
        due("180 minutes ago", 0, () -> x.fetch(0, NONE, NONE, 1L, NONE));
        x.pass(1);
        due("181 minutes ago", 1, () -> x.fetch(0, NONE, NONE, 1L, 3));
        x.setWindow(181);
        due("a wider window", 0, () -> x.fetch(0, NONE, NONE, 1L, NONE));
        x.setWindow(0);
        due("seen this minute", 1, () -> x.fetch(0, NONE, NONE, 1L, NONE));
        x.pass(1);
        due("seen last minute", 2, () -> x.fetch(0, NONE, NONE, 1L, NONE));
        x.setWindow(1440);
        x.fetch(0, 9, 9, 1L << 9, NONE);
        x.pass(1440);
        due("of more minutes than there were", 3, () -> x.fetch(0, NONE, NONE, 1L << 9, NONE));
        x.pass(1);
        due("one beyond the widest", 4, () -> x.fetch(0, NONE, NONE, 1L << 9, NONE));
    }

    private static void fetchGivesPairsAndLinks() {
        promise("8 fetch gives pairs and links");
        Reader x = withSources(3);
        x.fetch(0, 1, 1, 1L, NONE);
        x.fetch(0, 2, 2, 2L, NONE);
        due("more links", 0, () -> x.fetch(0, 1, 3, 1L, NONE));
        due("link 3", 0, () -> x.withLink(3));
        due("link 1 stays", 0, () -> x.withLink(1));
        due("another's link", 0, () -> x.fetch(0, 1, 2, 1L, NONE));
        due("stays with its item", 1, () -> x.withLink(2));
        due("pair through a link", 1, () -> x.fetch(0, 3, 2, 2L, NONE));
        due("pair 3", 1, () -> x.withIdentifier(0, 3));
        due("pair 2 stays", 1, () -> x.withIdentifier(0, 2));
        due("pair and link through likeness", 0, () -> x.fetch(2, 9, 9, 1L, NONE));
        due("pair 9", 0, () -> x.withIdentifier(2, 9));
        due("link 9", 0, () -> x.withLink(9));
    }

    private static void fetchGivesVersions() {
        promise("8 fetch gives versions");
        Reader x = withSources(1);
        x.fetch(0, 1, NONE, 1L, NONE);
        x.fetch(0, 1, NONE, 1L, NONE);
        due("same title", 1, () -> x.versions(0));
        x.fetch(0, 1, NONE, 2L, NONE);
        due("another title", 2, () -> x.versions(0));
        x.fetch(0, 1, NONE, 1L, NONE);
        due("an earlier title", 3, () -> x.versions(0));
    }

    private static void items() {
        promise("9 items");
        Reader x = withSources(1);
        due("none", 0, x::items);
        for (int i = 0; i < 30; i++) {
            due("number", i, () -> plainItem(x, 0, x.items()));
        }
        plainItem(x, 0, 4);
        due("thirty", 30, x::items);
    }

    private static void withIdentifier() {
        promise("10 withIdentifier");
        Reader x = withSources(6);
        x.fetch(0, 0, NONE, 1L, NONE);
        x.fetch(5, 999, NONE, 2L, NONE);
        due("first", 0, () -> x.withIdentifier(0, 0));
        due("last", 1, () -> x.withIdentifier(5, 999));
        due("other source", ELEMENT, () -> x.withIdentifier(1, 0));
        due("source -1", ELEMENT, () -> x.withIdentifier(-1, 999));
        due("source 6", ELEMENT, () -> x.withIdentifier(6, 0));
        due("identifier NONE", ELEMENT, () -> x.withIdentifier(0, NONE));
        due("identifier 1000", ELEMENT, () -> x.withIdentifier(0, 1000));
        x.fetch(1, 0, NONE, 2L, NONE);
        due("identifier 1000 is not the next source's 0", ELEMENT, () -> x.withIdentifier(0, 1000));
        due("identifier 1000 of the last source", ELEMENT, () -> x.withIdentifier(5, 1000));
        due("identifier -1 is not the last source's 999", ELEMENT, () -> x.withIdentifier(6, -1));
        due("least", ELEMENT, () -> x.withIdentifier(Integer.MIN_VALUE, Integer.MIN_VALUE));
        due("greatest", ELEMENT, () -> x.withIdentifier(Integer.MAX_VALUE, Integer.MAX_VALUE));
        due("fetched without", 2, () -> x.fetch(0, NONE, 1, 4L, NONE));
        due("still NONE", ELEMENT, () -> x.withIdentifier(0, NONE));
    }

    private static void withLink() {
        promise("11 withLink");
        Reader x = withSources(1);
        x.fetch(0, NONE, 0, 1L, NONE);
        x.fetch(0, NONE, 999, 2L, NONE);
        x.fetch(0, NONE, NONE, 4L, NONE);
        due("first", 0, () -> x.withLink(0));
        due("last", 1, () -> x.withLink(999));
        due("unheard", ELEMENT, () -> x.withLink(1));
        due("NONE", ELEMENT, () -> x.withLink(NONE));
        due("1000", ELEMENT, () -> x.withLink(1000));
        due("least", ELEMENT, () -> x.withLink(Integer.MIN_VALUE));
        due("greatest", ELEMENT, () -> x.withLink(Integer.MAX_VALUE));
    }

    private static void title() {
        promise("12 title");
        Reader x = withSources(1);
        for (int i = 0; i < 4; i++) {
            x.fetch(0, 1, NONE, 1L << i, NONE);
        }
        due("version 0 of 4", 1L, () -> x.title(0, 0));
        due("version 3 of 4", 8L, () -> x.title(0, 3));
        due("no version 4", ELEMENT, () -> x.title(0, 4));
        x.fetch(0, 1, NONE, 1L << 63, NONE);
        due("version 0 of 5", ELEMENT, () -> x.title(0, 0));
        due("version 1 of 5", 2L, () -> x.title(0, 1));
        due("version 4 of 5", 1L << 63, () -> x.title(0, 4));
        due("version -1", ELEMENT, () -> x.title(0, -1));
        due("least version", ELEMENT, () -> x.title(0, Integer.MIN_VALUE));
        due("greatest version", ELEMENT, () -> x.title(0, Integer.MAX_VALUE));
        due("item -1", INDEX, () -> x.title(-1, 0));
        due("item 1", INDEX, () -> x.title(1, -1));
    }

    private static void versions() {
        promise("13 versions");
        Reader x = withSources(1);
        plainItem(x, 0, 0);
        plainItem(x, 0, 1);
        for (int i = 0; i < 9; i++) {
            x.fetch(0, 101, NONE, 1L << i, NONE);
        }
        due("one", 1, () -> x.versions(0));
        due("ten", 10, () -> x.versions(1));
        due("item -1", INDEX, () -> x.versions(-1));
        due("item 2", INDEX, () -> x.versions(2));
    }

    private static void latestMajor() {
        promise("14 latestMajor");
        Reader x = withSources(1);
        x.fetch(0, 1, NONE, 0b11111L, NONE);
        due("the version 0", 0, () -> x.latestMajor(0));
        x.fetch(0, 1, NONE, 0b111L, NONE);
        due("60 is alike", 0, () -> x.latestMajor(0));
        x.fetch(0, 1, NONE, 0b1L, NONE);
        due("33 is not", 2, () -> x.latestMajor(0));
        x.fetch(0, 1, NONE, 0b1L, NONE);
        due("no new version", 2, () -> x.latestMajor(0));
        x.fetch(0, 1, NONE, 0b11L, NONE);
        due("50 is not", 3, () -> x.latestMajor(0));
        x.fetch(0, 1, NONE, 0b111L, NONE);
        due("66 is", 3, () -> x.latestMajor(0));
        x.setThreshold(100);
        due("as it was added", 3, () -> x.latestMajor(0));
        due("item -1", INDEX, () -> x.latestMajor(-1));
        due("item 1", INDEX, () -> x.latestMajor(1));
    }

    private static void sourcesOf() {
        promise("15 sourcesOf");
        Reader x = withSources(6);
        x.fetch(5, 1, 1, 1L, NONE);
        due("32", 32, () -> x.sourcesOf(0));
        x.fetch(0, NONE, 1, 1L, NONE);
        x.fetch(5, 1, 1, 1L, NONE);
        due("33", 33, () -> x.sourcesOf(0));
        x.fetch(3, NONE, NONE, 1L, NONE);
        due("41", 41, () -> x.sourcesOf(0));
        due("item -1", INDEX, () -> x.sourcesOf(-1));
        due("item 1", INDEX, () -> x.sourcesOf(1));
    }

    private static void timeOf() {
        promise("16 timeOf");
        Reader x = withSources(1);
        x.pass(2000);
        x.fetch(0, 0, NONE, 1L, NONE);
        x.fetch(0, 1, NONE, 2L, 2000);
        x.fetch(0, 2, NONE, 4L, 2001);
        x.fetch(0, 3, NONE, 8L, 560);
        x.fetch(0, 4, NONE, 16L, 559);
        x.fetch(0, 5, NONE, 32L, 1234);
        due("not told", 2000, () -> x.timeOf(0));
        due("told as seen", 2000, () -> x.timeOf(1));
        due("told later", 2000, () -> x.timeOf(2));
        due("told 1440 earlier", 560, () -> x.timeOf(3));
        due("told 1441 earlier", 2000, () -> x.timeOf(4));
        due("told between", 1234, () -> x.timeOf(5));
        x.pass(5);
        x.fetch(0, 5, NONE, 32L, 1999);
        due("does not change", 1234, () -> x.timeOf(5));
        due("item -1", INDEX, () -> x.timeOf(-1));
        due("item 6", INDEX, () -> x.timeOf(6));
        Reader y = withSources(1);
        y.pass(9);
        y.fetch(0, 0, NONE, 1L, 0);
        due("told the minute 0", 0, () -> y.timeOf(0));
    }

    // ---- rules

    private static void addRule() {
        promise("17 addRule");
        Reader x = withSources(1);
        plainItem(x, 0, 0);
        due("least", 0, () -> x.addRule(0L, 0L, 0, NONE, 0));
        due("greatest", 1, () -> x.addRule(-1L, -1L, 63, 7, SHOW));
        refused("sources -1", x, ARGUMENT, () -> x.addRule(0L, 0L, -1, NONE, 0));
        refused("sources 64", x, ARGUMENT, () -> x.addRule(0L, 0L, 64, NONE, 0));
        refused("tag -2", x, ARGUMENT, () -> x.addRule(0L, 0L, 0, -2, 0));
        refused("tag 8", x, ARGUMENT, () -> x.addRule(0L, 0L, 0, 8, 0));
        refused("action -1", x, ARGUMENT, () -> x.addRule(0L, 0L, 0, NONE, NONE));
        refused("action 10", x, ARGUMENT, () -> x.addRule(0L, 0L, 0, NONE, 10));
        for (int i = 2; i < 6; i++) {
            due("behind", i, () -> x.addRule(0L, 0L, 0, NONE, HIDE));
        }
        refused("the seventh", x, STATE, () -> x.addRule(0L, 0L, 0, NONE, 0));
        refused("arguments ahead of room", x, ARGUMENT, () -> x.addRule(0L, 0L, 0, NONE, 10));
    }

    private static void dropRule() {
        promise("18 dropRule");
        Reader x = withSources(1);
        x.fetch(0, 0, NONE, 1L, NONE);
        refused("none", x, INDEX, () -> x.dropRule(0));
        for (int i = 0; i < 6; i++) {
            x.addRule(0L, 0L, 0, NONE, i);
        }
        due("of six", 5, () -> x.dropRule(2));
        due("the rest", 0b111011, () -> x.tagsOf(0));
        due("the last", 4, () -> x.dropRule(4));
        due("without it", 0b011011, () -> x.tagsOf(0));
        due("room again", 4, () -> x.addRule(0L, 0L, 0, 3, 7));
        due("with it", 0b10011011, () -> x.tagsOf(0));
        refused("-1", x, INDEX, () -> x.dropRule(-1));
        refused("5", x, INDEX, () -> x.dropRule(5));
        due("the first", 4, () -> x.dropRule(0));
        due("the new one moved with its tag", 1, () -> x.matches(3));
        due("no more rule 4", INDEX, () -> x.matches(4));
        dropRuleMovesAll();
    }

    private static void dropRuleMovesAll() {
        Reader x = withSources(2);
        x.fetch(0, 0, NONE, 0b0011L, NONE);
        x.fetch(1, 1, NONE, 0b1100L, NONE);
        x.addRule(0L, 0L, 0, NONE, 0);
        x.addRule(0b0001L, 0L, 0, NONE, 1);
        x.addRule(0L, 0b1000L, 0, NONE, 2);
        x.addRule(0L, 0L, 2, NONE, 3);
        x.addRule(0L, 0L, 0, 2, 4);
        x.addRule(0L, 0L, 0, NONE, HIDE);
        x.dropRule(0);
        due("all set", 0b00010, () -> x.tagsOf(0));
        due("any set, sources and tag", 0b11100, () -> x.tagsOf(1));
        due("action", true, () -> x.isHidden(0));
    }

    private static void tagsOf() {
        promise("19 tagsOf");
        Reader x = withSources(2);
        x.fetch(0, 0, NONE, 0b0111L, NONE);
        x.fetch(1, 1, NONE, 0b11000L, NONE);
        due("no rules", 0, () -> x.tagsOf(0));
        x.addRule(0b0011L, 0L, 0, NONE, 0);
        x.addRule(0b1001L, 0L, 0, NONE, 1);
        x.addRule(0L, 0b1001L, 0, NONE, 2);
        x.addRule(0L, 0L, 0b110, NONE, 7);
        due("all, any", 0b101, () -> x.tagsOf(0));
        due("any, sources", 0b10000100, () -> x.tagsOf(1));
        x.addRule(0L, 0L, 0, 7, 6);
        x.addRule(0L, 0L, 0, 5, 4);
        due("a tag had", 0b11000100, () -> x.tagsOf(1));
        due("a tag not had", 0b101, () -> x.tagsOf(0));
        x.fetch(0, 0, NONE, 0b1001L, NONE);
        due("its latest title", 0b110, () -> x.tagsOf(0));
        x.fetch(1, NONE, NONE, 0b1001L, NONE);
        due("its sources now", 0b11000110, () -> x.tagsOf(0));
        due("item -1", INDEX, () -> x.tagsOf(-1));
        due("item 2", INDEX, () -> x.tagsOf(2));
        Reader y = withSources(1);
        y.fetch(0, 0, NONE, 1L, NONE);
        y.addRule(0L, 0L, 0, 1, 0);
        y.addRule(0L, 0L, 0, NONE, 1);
        due("a tag got later does not count", 0b10, () -> y.tagsOf(0));
        y.addRule(0L, 0L, 0, NONE, HIDE);
        due("hiding is no tag", 0b10, () -> y.tagsOf(0));
        y.addRule(0L, 0L, 0, NONE, SHOW);
        due("showing is no tag", 0b10, () -> y.tagsOf(0));
    }

    private static void isHidden() {
        promise("20 isHidden");
        Reader x = withSources(1);
        x.fetch(0, 0, NONE, 0b01L, NONE);
        x.fetch(0, 1, NONE, 0b10L, NONE);
        due("no rules", false, () -> x.isHidden(0));
        x.addRule(0L, 0L, 0, NONE, SHOW);
        x.addRule(0b01L, 0L, 0, NONE, HIDE);
        due("hidden", true, () -> x.isHidden(0));
        due("not the other", false, () -> x.isHidden(1));
        x.addRule(0L, 0L, 0, NONE, SHOW);
        due("shown again", false, () -> x.isHidden(0));
        x.addRule(0L, 0L, 0, NONE, HIDE);
        due("hidden again", true, () -> x.isHidden(1));
        x.dropRule(3);
        x.dropRule(2);
        due("rules as they are then", true, () -> x.isHidden(0));
        due("and for the other", false, () -> x.isHidden(1));
        due("item -1", INDEX, () -> x.isHidden(-1));
        due("item 2", INDEX, () -> x.isHidden(2));
    }

    private static void matches() {
        promise("21 matches");
        Reader x = withSources(2);
        x.addRule(0b001L, 0L, 0, NONE, HIDE);
        due("no items", 0, () -> x.matches(0));
        x.fetch(0, 0, NONE, 0b001L, NONE);
        x.fetch(0, 1, NONE, 0b110L, NONE);
        x.fetch(1, 2, NONE, 0b111000L, NONE);
        due("one", 1, () -> x.matches(0));
        x.addRule(0L, 0L, 0, NONE, 3);
        due("all, hidden ones too", 3, () -> x.matches(1));
        x.addRule(0L, 0b1010L, 0, 3, 4);
        due("any and a tag", 2, () -> x.matches(2));
        x.addRule(0L, 0L, 2, 4, 5);
        due("sources and a tag", 1, () -> x.matches(3));
        x.addRule(0L, 0L, 0, 6, 6);
        due("its own tag does not help", 0, () -> x.matches(4));
        x.addRule(0L, 0L, 4, NONE, 0);
        due("a source that does not exist", 0, () -> x.matches(5));
        due("rule -1", INDEX, () -> x.matches(-1));
        due("rule 6", INDEX, () -> x.matches(6));
    }

    // ---- rivers

    private static void addRiver() {
        promise("22 addRiver");
        Reader x = withSources(1);
        plainItem(x, 0, 0);
        due("least", 0, () -> x.addRiver(1, NONE));
        due("greatest", 1, () -> x.addRiver(63, 7));
        refused("sources 0", x, ARGUMENT, () -> x.addRiver(0, NONE));
        refused("sources -1", x, ARGUMENT, () -> x.addRiver(-1, NONE));
        refused("sources 64", x, ARGUMENT, () -> x.addRiver(64, NONE));
        refused("tag -2", x, ARGUMENT, () -> x.addRiver(1, -2));
        refused("tag 8", x, ARGUMENT, () -> x.addRiver(1, 8));
        due("third", 2, () -> x.addRiver(32, 0));
        due("fourth", 3, () -> x.addRiver(2, NONE));
        refused("the fifth", x, STATE, () -> x.addRiver(1, NONE));
        refused("arguments ahead of room", x, ARGUMENT, () -> x.addRiver(0, NONE));
    }

    private static void riverSize() {
        promise("23 riverSize");
        Reader x = withSources(3);
        x.addRiver(0b011, NONE);
        x.addRiver(0b110, 2);
        x.addRiver(0b100000, NONE);
        due("no items", 0, () -> x.riverSize(0));
        x.fetch(0, 0, NONE, 0b000011L, NONE);
        x.fetch(1, 1, NONE, 0b001100L, NONE);
        x.fetch(2, 2, NONE, 0b110000L, NONE);
        x.fetch(1, NONE, NONE, 0b000011L, NONE);
        due("each item once", 2, () -> x.riverSize(0));
        due("without the tag", 0, () -> x.riverSize(1));
        due("a source that does not exist", 0, () -> x.riverSize(2));
        x.addRule(0L, 0L, 0b101, NONE, 2);
        due("with the tag", 2, () -> x.riverSize(1));
        x.addRule(0b1L, 0L, 0, NONE, HIDE);
        due("hidden", 1, () -> x.riverSize(1));
        due("hidden everywhere", 1, () -> x.riverSize(0));
        due("river -1", INDEX, () -> x.riverSize(-1));
        due("river 3", INDEX, () -> x.riverSize(3));
    }

    private static Reader orderedRivers() {
        Reader x = withSources(2);
        x.addRiver(3, NONE);
        x.addRiver(2, NONE);
        x.pass(100);
        x.fetch(0, 0, NONE, 3L, 50);
        x.fetch(1, 1, NONE, 3L << 2, 70);
        x.fetch(0, 2, NONE, 3L << 4, 50);
        x.fetch(1, 3, NONE, 3L << 6, 10);
        x.fetch(1, 4, NONE, 3L << 8, NONE);
        return x;
    }

    private static void riverAt() {
        Reader x = orderedRivers();
        int[] whole = {4, 1, 2, 0, 3};
        int[] part = {4, 1, 3};
        for (int rank = 0; rank < 5; rank++) {
            int k = rank;
            promise("24 riverAt");
            due("the latest first", whole[k], () -> x.riverAt(0, k));
            due("of one source", k < 3 ? part[k] : ELEMENT, () -> x.riverAt(1, k));
            promise("25 riverAtAnew");
            due("the latest first", whole[k], () -> x.riverAtAnew(0, k));
            due("of one source", k < 3 ? part[k] : ELEMENT, () -> x.riverAtAnew(1, k));
        }
        promise("24 riverAt");
        due("rank 5", ELEMENT, () -> x.riverAt(0, 5));
        due("rank -1", ELEMENT, () -> x.riverAt(0, -1));
        due("greatest rank", ELEMENT, () -> x.riverAt(0, Integer.MAX_VALUE));
        due("river -1", INDEX, () -> x.riverAt(-1, 0));
        due("river 2, ahead of the rank", INDEX, () -> x.riverAt(2, -1));
        promise("25 riverAtAnew");
        due("rank 5", ELEMENT, () -> x.riverAtAnew(0, 5));
        due("rank -1", ELEMENT, () -> x.riverAtAnew(0, -1));
        due("greatest rank", ELEMENT, () -> x.riverAtAnew(0, Integer.MAX_VALUE));
        due("river -1", INDEX, () -> x.riverAtAnew(-1, 0));
        due("river 2, ahead of the rank", INDEX, () -> x.riverAtAnew(2, -1));
        x.addRule(3L << 2, 0L, 0, NONE, HIDE);
        promise("24 riverAt");
        due("hidden", 2, () -> x.riverAt(0, 1));
        promise("25 riverAtAnew");
        due("hidden", 2, () -> x.riverAtAnew(0, 1));
        due("changes nothing", 2, () -> x.riverAt(0, 1));
    }

    private static void rankOf() {
        promise("26 rankOf");
        Reader x = orderedRivers();
        due("first", 0, () -> x.rankOf(0, 4));
        due("last", 4, () -> x.rankOf(0, 3));
        due("same time", 2, () -> x.rankOf(0, 2));
        due("in the other river", 2, () -> x.rankOf(1, 3));
        due("not shown", ELEMENT, () -> x.rankOf(1, 0));
        due("river -1", INDEX, () -> x.rankOf(-1, 0));
        due("river 2", INDEX, () -> x.rankOf(2, 0));
        due("item -1", INDEX, () -> x.rankOf(0, -1));
        due("item 5", INDEX, () -> x.rankOf(0, 5));
    }

    private static void unread() {
        promise("27 unread");
        Reader x = orderedRivers();
        x.addDevice();
        due("all", 5, () -> x.unread(0));
        x.mark(0, 1, true);
        x.mark(0, 4, false);
        due("a device's mark alone", 5, () -> x.unread(0));
        x.sync(0);
        due("synced", 4, () -> x.unread(0));
        due("of the other river", 2, () -> x.unread(1));
        x.fetch(1, 1, NONE, 1L << 40, NONE);
        due("a major version", 5, () -> x.unread(0));
        x.addRule(0L, 0L, 1, NONE, HIDE);
        due("hidden", 3, () -> x.unread(0));
        due("river -1", INDEX, () -> x.unread(-1));
        due("river 2", INDEX, () -> x.unread(2));
    }

    private static void nextUnread() {
        promise("28 nextUnread");
        Reader x = orderedRivers();
        x.addDevice();
        due("the first", 4, () -> x.nextUnread(0));
        x.mark(0, 4, true);
        x.mark(0, 2, true);
        x.sync(0);
        due("the second", 1, () -> x.nextUnread(0));
        x.mark(0, 1, true);
        x.sync(0);
        due("the fourth", 0, () -> x.nextUnread(0));
        due("of the other river", 3, () -> x.nextUnread(1));
        x.mark(0, 3, true);
        x.sync(0);
        due("all read", ELEMENT, () -> x.nextUnread(1));
        x.addRiver(8, NONE);
        due("no items", ELEMENT, () -> x.nextUnread(2));
        due("river -1", INDEX, () -> x.nextUnread(-1));
        due("river 3", INDEX, () -> x.nextUnread(3));
    }

    private static void readShare() {
        promise("29 readShare");
        Reader x = withSources(2);
        x.addRiver(1, NONE);
        x.addRiver(2, NONE);
        due("no items", ARITHMETIC, () -> x.readShare(0));
        for (int i = 0; i < 3; i++) {
            plainItem(x, 0, i);
        }
        x.addDevice();
        due("none", 0.0f, () -> x.readShare(0));
        x.mark(0, 0, true);
        x.sync(0);
        due("one of three", 1.0f / 3.0f, () -> x.readShare(0));
        x.markRiver(0, 0);
        x.sync(0);
        due("all", 1.0f, () -> x.readShare(0));
        due("the empty river", ARITHMETIC, () -> x.readShare(1));
        due("river -1", INDEX, () -> x.readShare(-1));
        due("river 2", INDEX, () -> x.readShare(2));
    }

    // ---- devices and marks

    private static void addDevice() {
        promise("30 addDevice");
        Reader x = withSources(1);
        plainItem(x, 0, 0);
        due("first", 0, x::addDevice);
        x.mark(0, 0, true);
        due("second", 1, x::addDevice);
        due("not the other device's marks", false, () -> x.isReadOn(1, 0));
        x.sync(0);
        plainItem(x, 0, 1);
        x.fetch(0, 100, NONE, 7L, NONE);
        due("third", 2, x::addDevice);
        due("the reader's marks", true, () -> x.isReadOn(2, 0));
        due("all items", 1, () -> x.knownVersions(2, 1));
        due("all versions", 2, () -> x.knownVersions(2, 0));
        due("the others as before", 0, () -> x.knownVersions(0, 1));
        due("fourth", 3, x::addDevice);
        refused("the fifth", x, STATE, x::addDevice);
    }

    private static void mark() {
        promise("31 mark");
        Reader x = withSources(1);
        plainItem(x, 0, 0);
        x.addDevice();
        plainItem(x, 0, 1);
        due("unread before", false, () -> x.mark(0, 0, true));
        due("read before", true, () -> x.mark(0, 0, true));
        due("read", true, () -> x.isReadOn(0, 0));
        due("not the reader's", false, () -> x.isRead(0));
        due("read before it is unread", true, () -> x.mark(0, 0, false));
        due("unread", false, () -> x.isReadOn(0, 0));
        due("unread before, by a mark", false, () -> x.mark(0, 0, false));
        refused("unknown", x, STATE, () -> x.mark(0, 1, true));
        refused("device -1", x, INDEX, () -> x.mark(-1, 0, true));
        refused("device 1", x, INDEX, () -> x.mark(1, 0, true));
        refused("item -1", x, INDEX, () -> x.mark(0, -1, true));
        refused("item 2", x, INDEX, () -> x.mark(0, 2, true));
        x.mark(0, 0, true);
        x.fetch(0, 100, NONE, 1L << 50, NONE);
        due("the version that it knows", true, () -> x.mark(0, 0, true));
        x.sync(0);
        due("is too low for the reader", false, () -> x.isRead(0));
        due("and then for the device", false, () -> x.mark(0, 0, true));
        x.sync(0);
        due("the new version", true, () -> x.isRead(0));
    }

    private static void markRiver() {
        promise("32 markRiver");
        Reader x = withSources(2);
        x.addRiver(1, NONE);
        x.addRiver(2, NONE);
        for (int i = 0; i < 4; i++) {
            plainItem(x, i == 3 ? 1 : 0, i);
        }
        x.addDevice();
        plainItem(x, 0, 4);
        x.mark(0, 0, true);
        x.mark(0, 1, false);
        x.addRule(3L << 4, 0L, 0, NONE, HIDE);
        due("one was read, one is hidden, one is not known", 1, () -> x.markRiver(0, 0));
        due("0", true, () -> x.isReadOn(0, 0));
        due("1", true, () -> x.isReadOn(0, 1));
        due("hidden", false, () -> x.isReadOn(0, 2));
        due("of the other river", false, () -> x.isReadOn(0, 3));
        due("again", 0, () -> x.markRiver(0, 0));
        due("not the reader's", false, () -> x.isRead(1));
        x.sync(0);
        due("unknown ones stay", false, () -> x.isReadOn(0, 4));
        due("now known", 1, () -> x.markRiver(0, 0));
        refused("device -1", x, INDEX, () -> x.markRiver(-1, 0));
        refused("device 1", x, INDEX, () -> x.markRiver(1, 0));
        refused("river -1", x, INDEX, () -> x.markRiver(0, -1));
        refused("river 2", x, INDEX, () -> x.markRiver(0, 2));
        markRiverRenewsMinutes();
    }

    private static void markRiverRenewsMinutes() {
        Reader x = withSources(1);
        x.addRiver(1, NONE);
        plainItem(x, 0, 0);
        x.addDevice();
        x.addDevice();
        x.mark(0, 0, true);
        x.pass(1);
        x.mark(1, 0, false);
        x.pass(1);
        due("was read, and has a new minute", 0, () -> x.markRiver(0, 0));
        x.sync(1);
        due("so that it wins", 1, () -> x.sync(0));
    }

    private static void syncKinds() {
        promise("33 sync, kinds");
        Reader x = withSources(1);
        for (int i = 0; i < 3; i++) {
            plainItem(x, 0, i);
        }
        x.addDevice();
        x.addDevice();
        due("no marks", 0, () -> x.sync(0));
        x.mark(0, 0, true);
        x.mark(0, 1, true);
        x.mark(0, 2, false);
        due("only the device's", 2, () -> x.sync(0));
        due("read", true, () -> x.isRead(0));
        due("only the reader's", 0, () -> x.sync(1));
        due("the device has it", true, () -> x.isReadOn(1, 0));
        x.mark(0, 0, false);
        due("read wins against unread for the reader", 0, () -> x.sync(0));
        due("and for the device", true, () -> x.isReadOn(0, 0));
        x.mark(1, 2, true);
        due("read wins against unread for the device", 1, () -> x.sync(1));
        due("device -1", INDEX, () -> x.sync(-1));
        due("device 2", INDEX, () -> x.sync(2));
    }

    private static void syncMinutes() {
        promise("33 sync, minutes");
        Reader x = withSources(1);
        plainItem(x, 0, 0);
        plainItem(x, 0, 1);
        x.addDevice();
        x.addDevice();
        x.mark(0, 0, true);
        x.mark(0, 1, false);
        x.pass(1);
        x.mark(1, 0, false);
        x.mark(1, 1, true);
        due("the later ones", 1, () -> x.sync(1));
        due("are kept by the reader", 0, () -> x.sync(0));
        due("unread", false, () -> x.isReadOn(0, 0));
        due("read", true, () -> x.isReadOn(0, 1));
        x.pass(1);
        x.mark(0, 1, false);
        due("read no more", 1, () -> x.sync(0));
        due("unread on both", false, () -> x.isRead(1));
    }

    private static void syncVersions() {
        promise("33 sync, versions");
        Reader x = withSources(1);
        plainItem(x, 0, 0);
        x.addDevice();
        x.fetch(0, 100, NONE, 1L << 40, NONE);
        x.addDevice();
        x.mark(0, 0, true);
        x.mark(1, 0, true);
        due("version 1", 1, () -> x.sync(1));
        due("is not less than 0", 0, () -> x.sync(0));
        due("read", true, () -> x.isRead(0));
        due("on the device too", true, () -> x.isReadOn(0, 0));
        x.fetch(0, 100, NONE, 1L << 41, NONE);
        x.addDevice();
        x.mark(0, 0, true);
        x.mark(2, 0, true);
        due("version 1 once more", 0, () -> x.sync(0));
        due("version 2 wins over 1", 1, () -> x.sync(2));
        x.fetch(0, 100, NONE, 1L << 42, NONE);
        x.pass(1);
        x.mark(2, 0, true);
        x.addDevice();
        x.mark(3, 0, true);
        x.sync(3);
        due("read by version 3", true, () -> x.isRead(0));
        x.pass(1);
        x.mark(2, 0, true);
        due("a later mark of a lower version", 1, () -> x.sync(2));
        due("is too low", false, () -> x.isRead(0));
    }

    private static void syncUnknown() {
        promise("33 sync, unknown items");
        Reader x = withSources(1);
        x.addDevice();
        plainItem(x, 0, 0);
        x.addDevice();
        x.mark(1, 0, true);
        x.sync(1);
        due("nothing turns", 0, () -> x.sync(0));
        due("gets the reader's marks", true, () -> x.isReadOn(0, 0));
        due("knows the item", 1, () -> x.knownVersions(0, 0));
        x.fetch(0, 100, NONE, 1L << 40, NONE);
        due("nothing turns by knowing", 0, () -> x.sync(0));
        due("knows the version", 2, () -> x.knownVersions(0, 0));
        due("and that it is major", false, () -> x.isReadOn(0, 0));
        due("the other one not", true, () -> x.isReadOn(1, 0));
    }

    private static void isRead() {
        promise("34 isRead");
        Reader x = withSources(1);
        x.fetch(0, 1, NONE, 0b11111L, NONE);
        x.fetch(0, 2, NONE, 1L << 40, NONE);
        x.addDevice();
        due("no mark", false, () -> x.isRead(0));
        x.mark(0, 0, true);
        x.mark(0, 1, false);
        x.sync(0);
        due("read", true, () -> x.isRead(0));
        due("marked as unread", false, () -> x.isRead(1));
        x.fetch(0, 1, NONE, 0b1111L, NONE);
        due("a version that is not major", true, () -> x.isRead(0));
        x.fetch(0, 1, NONE, 0b1L, NONE);
        due("a major version", false, () -> x.isRead(0));
        due("item -1", INDEX, () -> x.isRead(-1));
        due("item 2", INDEX, () -> x.isRead(2));
    }

    private static void isReadOn() {
        promise("35 isReadOn");
        Reader x = withSources(1);
        x.fetch(0, 1, NONE, 0b11111L, NONE);
        x.addDevice();
        x.fetch(0, 2, NONE, 1L << 40, NONE);
        due("no mark", false, () -> x.isReadOn(0, 0));
        x.mark(0, 0, true);
        x.fetch(0, 1, NONE, 0b1L, NONE);
        due("a major version that it does not know", true, () -> x.isReadOn(0, 0));
        due("unknown", STATE, () -> x.isReadOn(0, 1));
        x.sync(0);
        due("a major version that it knows", false, () -> x.isReadOn(0, 0));
        due("known", false, () -> x.isReadOn(0, 1));
        due("device -1", INDEX, () -> x.isReadOn(-1, 0));
        due("device 1", INDEX, () -> x.isReadOn(1, 0));
        due("item -1", INDEX, () -> x.isReadOn(0, -1));
        due("item 2", INDEX, () -> x.isReadOn(0, 2));
    }

    private static void knownVersions() {
        promise("36 knownVersions");
        Reader x = withSources(1);
        plainItem(x, 0, 0);
        x.fetch(0, 100, NONE, 1L << 40, NONE);
        x.addDevice();
        x.fetch(0, 100, NONE, 1L << 41, NONE);
        plainItem(x, 0, 1);
        due("as it was added", 2, () -> x.knownVersions(0, 0));
        due("unknown", 0, () -> x.knownVersions(0, 1));
        x.sync(0);
        due("synced", 3, () -> x.knownVersions(0, 0));
        due("known", 1, () -> x.knownVersions(0, 1));
        due("device -1", INDEX, () -> x.knownVersions(-1, 0));
        due("device 1", INDEX, () -> x.knownVersions(1, 0));
        due("item -1", INDEX, () -> x.knownVersions(0, -1));
        due("item 2", INDEX, () -> x.knownVersions(0, 2));
    }

    // ---- sums

    private static void meanVersions() {
        promise("37 meanVersions");
        Reader x = withSources(1);
        due("no items", ARITHMETIC, x::meanVersions);
        plainItem(x, 0, 0);
        due("one", 1.0, x::meanVersions);
        plainItem(x, 0, 1);
        plainItem(x, 0, 2);
        x.fetch(0, 102, NONE, 1L << 40, NONE);
        due("four of three", 4.0 / 3.0, x::meanVersions);
    }

    private static void isSound() {
        promise("38 isSound");
        due("a new object", true, () -> new Reader().isSound());
        Reader x = orderedRivers();
        x.addRule(3L << 2, 0L, 0, NONE, HIDE);
        x.addRiver(63, 5);
        due("with rivers", true, x::isSound);
    }

    /** As much of everything as there can be, so that each row is used to its last place. */
    private static void fullHouse() {
        promise("all limits at once");
        Reader x = withSources(6);
        for (int i = 0; i < 30; i++) {
            plainItem(x, i % 6, i);
        }
        for (int i = 0; i < 4; i++) {
            x.addRiver(63, i == 3 ? 5 : NONE);
            due("device", i, x::addDevice);
        }
        for (int i = 0; i < 6; i++) {
            x.addRule(0L, 0L, 0, i == 0 ? NONE : i - 1, i);
        }
        due("size", 30, () -> x.riverSize(3));
        due("last rank", 0, () -> x.riverAt(3, 29));
        due("last rank anew", 0, () -> x.riverAtAnew(3, 29));
        due("no rank 30", ELEMENT, () -> x.riverAt(3, 30));
        due("rank of the first item", 29, () -> x.rankOf(0, 0));
        due("rule 5", 30, () -> x.matches(5));
        due("tags", 63, () -> x.tagsOf(29));
        due("marks", 30, () -> x.markRiver(3, 3));
        due("sync", 30, () -> x.sync(3));
        due("sync of the first device", 0, () -> x.sync(0));
        due("all read", ELEMENT, () -> x.nextUnread(2));
        due("share", 1.0f, () -> x.readShare(0));
        due("read on the first device", true, () -> x.isReadOn(0, 29));
        due("not on the second", false, () -> x.isReadOn(1, 0));
        due("mean", 1.0, x::meanVersions);
        due("sound", true, x::isSound);
        refused("the thirty-first", x, STATE, () -> x.fetch(0, 999, NONE, 1L << 62, NONE));
    }

    private static void constants() {
        promise("the constants");
        due("NONE", -1, () -> Feedloom.NONE);
        due("HIDE", 8, () -> Feedloom.HIDE);
        due("SHOW", 9, () -> Feedloom.SHOW);
    }
}
