/** What is full, at its last place and one beyond it, and what is empty. */
public final class FeedloomFullAndEmpty extends Checks {
    public static void main(String[] args) {
        lastMinute();
        sixSources();
        thirtyItems();
        thirtyItemsFoundInEachWay();
        thirtyItemsTakeNoKeys();
        sixRules();
        fourRivers();
        fourDevices();
        fourTitles();
        manyVersions();
        nothingAtAll();
        sourcesWithoutItems();
        noItemsButAllElse();
        emptyAllSet();
        emptyAnySet();
        emptySourceSet();
        emptySetsTogether();
        noRules();
        titlesWithoutWords();
        riverWithoutItems();
        riverWithoutItemsByTag();
        riverWithoutItemsByHiding();
        noMarkOnEitherSide();
        noMarkOnTheReader();
        noMarkOnTheDevice();
        end();
    }

    // ---- full

    private static Reader atMinute(int minute) {
        Reader x = withSources(1);
        for (int left = minute; left > 0; left -= 2000) {
            x.pass(Math.min(left, 2000));
        }
        return x;
    }

    private static void lastMinute() {
        promise("at most the minute 99999");
        for (int minutes : new int[] {1, 2, 1999, 2000}) {
            Reader x = atMinute(99999 - minutes);
            due("to the last by " + minutes, 99999, () -> x.pass(minutes));
            due("now", 99999, x::now);
            refused("one more", x, STATE, () -> x.pass(1));
            refused("many more", x, STATE, () -> x.pass(2000));
            Reader y = atMinute(100000 - minutes);
            refused("one beyond the last by " + minutes, y, STATE, () -> y.pass(minutes));
            due("not moved", 100000 - minutes, y::now);
        }
        Reader y = atMinute(99998);
        refused("2 from 99998", y, STATE, () -> y.pass(2));
        due("1 from 99998, behind a refused call", 99999, () -> y.pass(1));
        due("an item of the last minute", 0, () -> y.fetch(0, NONE, NONE, 1L, 99999));
        due("its time", 99999, () -> y.timeOf(0));
        due("found in the last minute", 0, () -> y.fetch(0, NONE, NONE, 1L, NONE));
        y.addDevice();
        due("marked in the last minute", false, () -> y.mark(0, 0, true));
        due("synced in the last minute", 1, () -> y.sync(0));
    }

    private static void sixSources() {
        promise("at most 6 sources");
        Reader x = new Reader();
        for (int source = 0; source < 6; source++) {
            int s = source;
            due("not yet " + s, INDEX, () -> x.fetch(s, s, s, apart(s), NONE));
            due("the number " + s, s, x::addSource);
            due("tells " + s, s, () -> x.fetch(s, s, s, apart(s), NONE));
        }
        refused("the seventh", x, STATE, x::addSource);
        refused("the seventh again", x, STATE, x::addSource);
        due("does not tell", INDEX, () -> x.fetch(6, 6, 6, apart(6), NONE));
        for (int source = 0; source < 6; source++) {
            int s = source;
            due("has its pair " + s, s, () -> x.withIdentifier(s, s));
            due("is the only one " + s, 1 << s, () -> x.sourcesOf(s));
        }
    }

    private static Reader withItems(int count) {
        Reader x = withSources(2);
        for (int item = 0; item < count; item++) {
            x.fetch(0, item, item, apart(item), NONE);
        }
        return x;
    }

    private static void thirtyItems() {
        promise("at most 30 items");
        Reader x = withItems(29);
        due("29", 29, x::items);
        due("the thirtieth", 29, () -> x.fetch(0, 29, 29, apart(29), NONE));
        due("30", 30, x::items);
        refused("the thirty-first", x, STATE, () -> x.fetch(1, 998, 998, apart(30), NONE));
        refused("the thirty-first without keys", x, STATE, () -> x.fetch(1, NONE, NONE, apart(30), NONE));
        refused("the thirty-first again", x, STATE, () -> x.fetch(1, 998, 998, apart(30), 0));
        due("30 still", 30, x::items);
        due("the first one's title", apart(0), () -> x.title(0, 0));
        due("the last one's title", apart(29), () -> x.title(29, 0));
    }

    private static void thirtyItemsFoundInEachWay() {
        promise("at most 30 items, found ones");
        Reader x = withItems(30);
        due("by the pair", 29, () -> x.fetch(0, 29, NONE, apart(30), NONE));
        due("by the link", 28, () -> x.fetch(1, 998, 28, apart(31), NONE));
        due("by likeness", 27, () -> x.fetch(1, 999, NONE, apart(27), NONE));
        due("the new pair", 28, () -> x.withIdentifier(1, 998));
        due("the other new pair", 27, () -> x.withIdentifier(1, 999));
        due("a new version", 2, () -> x.versions(29));
        x.pass(181);
        refused("out of the window", x, STATE, () -> x.fetch(1, NONE, NONE, apart(27), NONE));
        due("by the pair still", 27, () -> x.fetch(1, 999, NONE, apart(26), NONE));
    }

    private static void thirtyItemsTakeNoKeys() {
        promise("at most 30 items, the refused one's keys");
        Reader x = withItems(30);
        refused("the thirty-first", x, STATE, () -> x.fetch(1, 998, 999, apart(30), NONE));
        due("its pair is no one's", ELEMENT, () -> x.withIdentifier(1, 998));
        due("its link is no one's", ELEMENT, () -> x.withLink(999));
        due("an item can have them", 5, () -> x.fetch(1, 998, 999, apart(5), NONE));
        due("its pair", 5, () -> x.withIdentifier(1, 998));
        due("its link", 5, () -> x.withLink(999));
    }

    private static void sixRules() {
        promise("at most 6 rules");
        Reader x = withItems(1);
        for (int rule = 0; rule < 6; rule++) {
            int n = rule;
            due("not yet " + n, INDEX, () -> x.matches(n));
            due("the number " + n, n, () -> x.addRule(0L, 0L, 0, n == 0 ? NONE : n - 1, n));
            due("holds " + n, 1, () -> x.matches(n));
        }
        refused("the seventh", x, STATE, () -> x.addRule(0L, 0L, 0, NONE, 7));
        refused("the seventh again", x, STATE, () -> x.addRule(-1L, -1L, 63, 7, SHOW));
        due("the tags of six", 0b111111, () -> x.tagsOf(0));
        due("dropped", 5, () -> x.dropRule(5));
        due("the sixth once more", 5, () -> x.addRule(0L, 0L, 0, 4, 7));
        due("its tag", 0b10011111, () -> x.tagsOf(0));
        refused("the seventh behind it", x, STATE, () -> x.addRule(0L, 0L, 0, NONE, 6));
        for (int left = 5; left >= 0; left--) {
            int n = left;
            due("dropped to " + n, n, () -> x.dropRule(0));
        }
        refused("none to drop", x, INDEX, () -> x.dropRule(0));
        due("the first once more", 0, () -> x.addRule(0L, 0L, 0, NONE, 6));
        due("its tag alone", 0b1000000, () -> x.tagsOf(0));
    }

    private static void fourRivers() {
        promise("at most 4 rivers");
        Reader x = withSources(6);
        for (int item = 0; item < 4; item++) {
            x.fetch(item, NONE, NONE, apart(item), NONE);
        }
        for (int river = 0; river < 4; river++) {
            int n = river;
            due("not yet " + n, INDEX, () -> x.riverSize(n));
            due("the number " + n, n, () -> x.addRiver(1 << n, NONE));
            due("shows " + n, n, () -> x.riverAt(n, 0));
        }
        refused("the fifth", x, STATE, () -> x.addRiver(63, NONE));
        refused("the fifth again", x, STATE, () -> x.addRiver(1, 7));
        due("no fifth", INDEX, () -> x.riverSize(4));
        due("the fourth as before", 3, () -> x.riverAt(3, 0));
    }

    private static void fourDevices() {
        promise("at most 4 devices");
        Reader x = withItems(1);
        for (int device = 0; device < 4; device++) {
            int n = device;
            due("not yet " + n, INDEX, () -> x.sync(n));
            due("the number " + n, n, x::addDevice);
            due("knows " + n, n + 1, () -> x.knownVersions(n, 0));
            x.fetch(0, 0, NONE, apart(n + 1), NONE);
        }
        refused("the fifth", x, STATE, x::addDevice);
        refused("the fifth again", x, STATE, x::addDevice);
        due("no fifth", INDEX, () -> x.sync(4));
        due("the fourth knows what it knew", 4, () -> x.knownVersions(3, 0));
    }

    private static void fourTitles() {
        promise("the titles of the latest 4 versions are kept");
        Reader x = withItems(2);
        for (int version = 1; version < 4; version++) {
            x.fetch(0, 1, NONE, apart(10 + version), NONE);
        }
        due("the first of four", apart(1), () -> x.title(1, 0));
        due("the last of four", apart(13), () -> x.title(1, 3));
        due("none beyond", ELEMENT, () -> x.title(1, 4));
        x.fetch(0, 1, NONE, apart(14), NONE);
        due("the first of five", ELEMENT, () -> x.title(1, 0));
        due("the second of five", apart(11), () -> x.title(1, 1));
        due("the last of five", apart(14), () -> x.title(1, 4));
        x.fetch(0, 1, NONE, apart(14), NONE);
        due("the same title drops none", apart(11), () -> x.title(1, 1));
        due("an item beside it keeps its own", apart(0), () -> x.title(0, 0));
        due("all have been versions", 5, () -> x.versions(1));
    }

    private static void manyVersions() {
        promise("many versions");
        Reader x = withItems(30);
        x.addDevice();
        for (int version = 1; version <= 300; version++) {
            x.fetch(0, 29, NONE, apart(29) + version, NONE);
        }
        due("how many", 301, () -> x.versions(29));
        due("the last", apart(29) + 300, () -> x.title(29, 300));
        due("the fourth from behind", apart(29) + 297, () -> x.title(29, 297));
        due("the fifth from behind", ELEMENT, () -> x.title(29, 296));
        due("the first", ELEMENT, () -> x.title(29, 0));
        due("the one before it keeps its own", apart(28), () -> x.title(28, 0));
        due("the device knows one", 1, () -> x.knownVersions(0, 29));
        due("synced", 0, () -> x.sync(0));
        due("the device knows all", 301, () -> x.knownVersions(0, 29));
        due("mean", 330.0 / 30.0, x::meanVersions);
    }

    // ---- empty

    private static void nothingAtAll() {
        promise("a new object, each call");
        Reader x = new Reader();
        due("now", 0, x::now);
        due("items", 0, x::items);
        due("sound", true, x::isSound);
        refused("fetch", x, INDEX, () -> x.fetch(0, NONE, NONE, 1L, NONE));
        refused("withIdentifier", x, ELEMENT, () -> x.withIdentifier(0, 0));
        refused("withLink", x, ELEMENT, () -> x.withLink(0));
        refused("title", x, INDEX, () -> x.title(0, 0));
        refused("versions", x, INDEX, () -> x.versions(0));
        refused("latestMajor", x, INDEX, () -> x.latestMajor(0));
        refused("sourcesOf", x, INDEX, () -> x.sourcesOf(0));
        refused("timeOf", x, INDEX, () -> x.timeOf(0));
        refused("dropRule", x, INDEX, () -> x.dropRule(0));
        refused("tagsOf", x, INDEX, () -> x.tagsOf(0));
        refused("isHidden", x, INDEX, () -> x.isHidden(0));
        refused("matches", x, INDEX, () -> x.matches(0));
        refused("riverSize", x, INDEX, () -> x.riverSize(0));
        refused("riverAt", x, INDEX, () -> x.riverAt(0, 0));
        refused("riverAtAnew", x, INDEX, () -> x.riverAtAnew(0, 0));
        refused("rankOf", x, INDEX, () -> x.rankOf(0, 0));
        refused("unread", x, INDEX, () -> x.unread(0));
        refused("nextUnread", x, INDEX, () -> x.nextUnread(0));
        refused("readShare", x, INDEX, () -> x.readShare(0));
        refused("mark", x, INDEX, () -> x.mark(0, 0, true));
        refused("markRiver", x, INDEX, () -> x.markRiver(0, 0));
        refused("sync", x, INDEX, () -> x.sync(0));
        refused("isRead", x, INDEX, () -> x.isRead(0));
        refused("isReadOn", x, INDEX, () -> x.isReadOn(0, 0));
        refused("knownVersions", x, INDEX, () -> x.knownVersions(0, 0));
        refused("meanVersions", x, ARITHMETIC, x::meanVersions);
        due("threshold", 60, () -> x.setThreshold(60));
        due("window", 180, () -> x.setWindow(180));
        due("first source", 0, x::addSource);
        due("first rule", 0, () -> x.addRule(0L, 0L, 0, NONE, 0));
        due("first river", 0, () -> x.addRiver(1, NONE));
        due("first device", 0, x::addDevice);
        due("first item", 0, () -> x.fetch(0, NONE, NONE, 1L, NONE));
    }

    private static void sourcesWithoutItems() {
        promise("sources without items");
        Reader x = withSources(6);
        due("items", 0, x::items);
        refused("meanVersions", x, ARITHMETIC, x::meanVersions);
        refused("withIdentifier", x, ELEMENT, () -> x.withIdentifier(5, 999));
        due("sound", true, x::isSound);
    }

    private static void noItemsButAllElse() {
        promise("no items, but rules, rivers and devices");
        Reader x = withSources(6);
        for (int i = 0; i < 4; i++) {
            x.addRule(0L, 0L, 0, NONE, i);
            x.addRiver(63, i == 0 ? NONE : i);
            due("device", i, x::addDevice);
        }
        for (int i = 0; i < 4; i++) {
            int n = i;
            due("matches " + n, 0, () -> x.matches(n));
            due("riverSize " + n, 0, () -> x.riverSize(n));
            due("unread " + n, 0, () -> x.unread(n));
            due("markRiver " + n, 0, () -> x.markRiver(n, n));
            due("sync " + n, 0, () -> x.sync(n));
            refused("riverAt " + n, x, ELEMENT, () -> x.riverAt(n, 0));
            refused("riverAtAnew " + n, x, ELEMENT, () -> x.riverAtAnew(n, 0));
            refused("rankOf " + n, x, INDEX, () -> x.rankOf(n, 0));
            refused("nextUnread " + n, x, ELEMENT, () -> x.nextUnread(n));
            refused("readShare " + n, x, ARITHMETIC, () -> x.readShare(n));
            refused("mark " + n, x, INDEX, () -> x.mark(n, 0, true));
            refused("isReadOn " + n, x, INDEX, () -> x.isReadOn(n, 0));
            refused("knownVersions " + n, x, INDEX, () -> x.knownVersions(n, 0));
        }
        due("sound", true, x::isSound);
    }

    /** The items 0, 1 and 2 are told by the sources of their numbers and have the words of their numbers alone. */
    private static Reader withThree() {
        Reader x = withSources(3);
        for (int item = 0; item < 3; item++) {
            x.fetch(item, item, NONE, 1L << item, NONE);
        }
        return x;
    }

    private static void emptyAllSet() {
        promise("an empty all set");
        Reader x = withThree();
        x.addRule(0L, 0b011L, 0, NONE, 1);
        x.addRule(0L, 0L, 0b100, NONE, 2);
        due("the any set is left", 2, () -> x.matches(0));
        due("the sources are left", 1, () -> x.matches(1));
        due("item 0", 0b010, () -> x.tagsOf(0));
        due("item 2", 0b100, () -> x.tagsOf(2));
    }

    private static void emptyAnySet() {
        promise("an empty any set");
        Reader x = withThree();
        x.addRule(0b010L, 0L, 0, NONE, 1);
        x.addRule(0L, 0L, 0b011, NONE, 2);
        due("the all set is left", 1, () -> x.matches(0));
        due("the sources are left", 2, () -> x.matches(1));
        due("item 1", 0b110, () -> x.tagsOf(1));
    }

    private static void emptySourceSet() {
        promise("an empty set of sources");
        Reader x = withThree();
        x.addRule(0b100L, 0L, 0, NONE, 1);
        x.addRule(0L, 0b101L, 0, NONE, 2);
        due("the all set is left", 1, () -> x.matches(0));
        due("the any set is left", 2, () -> x.matches(1));
        due("item 2", 0b110, () -> x.tagsOf(2));
    }

    private static void emptySetsTogether() {
        promise("all sets empty");
        Reader x = withThree();
        x.addRule(0L, 0L, 0, NONE, 1);
        x.addRule(0L, 0L, 0, 1, 2);
        x.addRule(0L, 0L, 0, 3, 4);
        due("holds for all", 3, () -> x.matches(0));
        due("the tag is left", 3, () -> x.matches(1));
        due("the tag is left and not had", 0, () -> x.matches(2));
        due("tags", 0b110, () -> x.tagsOf(0));
    }

    private static void noRules() {
        promise("no rules");
        Reader x = withThree();
        x.addRiver(63, NONE);
        x.addRiver(63, 0);
        due("no tags", 0, () -> x.tagsOf(0));
        due("not hidden", false, () -> x.isHidden(0));
        due("all shown", 3, () -> x.riverSize(0));
        due("none with a tag", 0, () -> x.riverSize(1));
        x.addRule(0L, 0L, 0, NONE, 0);
        x.addRule(0L, 0L, 0, NONE, HIDE);
        due("all hidden", 0, () -> x.riverSize(0));
        x.dropRule(1);
        x.dropRule(0);
        due("no tags again", 0, () -> x.tagsOf(0));
        due("not hidden again", false, () -> x.isHidden(0));
        due("all shown again", 3, () -> x.riverSize(0));
        due("none with a tag again", 0, () -> x.riverSize(1));
    }

    private static void titlesWithoutWords() {
        promise("a title with no words");
        Reader x = withThree();
        refused("of a new item", x, ARGUMENT, () -> x.fetch(0, 5, 5, 0L, NONE));
        refused("of an item found by its pair", x, ARGUMENT, () -> x.fetch(0, 0, 5, 0L, 0));
        refused("against one with words", x, ARGUMENT, () -> x.likeness(0L, 1L));
        refused("behind one with words", x, ARGUMENT, () -> x.likeness(1L, 0L));
        due("the title as before", 1L, () -> x.title(0, 0));
        due("one version", 1, () -> x.versions(0));
        due("no item more", 3, x::items);
    }

    /** What every question says of a river that shows no items, while there are items and a device knows them. */
    private static void showsNone(Reader x, int river) {
        due("riverSize", 0, () -> x.riverSize(river));
        due("unread", 0, () -> x.unread(river));
        due("markRiver", 0, () -> x.markRiver(0, river));
        refused("riverAt", x, ELEMENT, () -> x.riverAt(river, 0));
        refused("riverAtAnew", x, ELEMENT, () -> x.riverAtAnew(river, 0));
        refused("rankOf", x, ELEMENT, () -> x.rankOf(river, 0));
        refused("nextUnread", x, ELEMENT, () -> x.nextUnread(river));
        refused("readShare", x, ARITHMETIC, () -> x.readShare(river));
        due("nothing is read on the device", false, () -> x.isReadOn(0, 0));
        due("sound", true, x::isSound);
    }

    private static void riverWithoutItems() {
        promise("a river whose sources have told nothing");
        Reader x = withThree();
        x.addDevice();
        x.addRiver(0b111000, NONE);
        showsNone(x, 0);
        x.addRiver(0b000001, NONE);
        due("another river shows", 1, () -> x.riverSize(1));
    }

    private static void riverWithoutItemsByTag() {
        promise("a river whose tag no item has");
        Reader x = withThree();
        x.addDevice();
        x.addRule(0L, 0L, 0, NONE, 6);
        x.addRiver(63, 7);
        showsNone(x, 0);
        x.addRule(0b1L, 0L, 0, NONE, 7);
        due("it shows the item that has got it", 1, () -> x.riverSize(0));
    }

    private static void riverWithoutItemsByHiding() {
        promise("a river whose items are hidden");
        Reader x = withThree();
        x.addDevice();
        x.addRiver(63, NONE);
        x.addRule(0L, 0L, 0, NONE, HIDE);
        showsNone(x, 0);
        x.addRule(0b1L, 0L, 0, NONE, SHOW);
        due("it shows the item that is shown again", 1, () -> x.riverSize(0));
        due("and it alone", 0, () -> x.riverAt(0, 0));
    }

    private static void noMarkOnEitherSide() {
        promise("no mark on either side");
        Reader x = withThree();
        x.addDevice();
        x.addDevice();
        due("sync", 0, () -> x.sync(0));
        due("not read for the reader", false, () -> x.isRead(0));
        due("not read for the device", false, () -> x.isReadOn(0, 0));
        x.mark(1, 0, false);
        x.sync(1);
        due("nothing was made up that would win", false, () -> x.isRead(0));
        x.mark(1, 0, true);
        due("nor against read", 1, () -> x.sync(1));
        due("sync again", 0, () -> x.sync(0));
        due("the reader's is read", true, () -> x.isReadOn(0, 0));
    }

    private static void noMarkOnTheReader() {
        promise("a mark on the device alone");
        Reader x = withThree();
        x.addDevice();
        x.addDevice();
        x.mark(0, 0, true);
        x.mark(0, 1, false);
        due("one is read now", 1, () -> x.sync(0));
        due("read for the reader", true, () -> x.isRead(0));
        due("unread for the reader", false, () -> x.isRead(1));
        due("read for the device", true, () -> x.isReadOn(0, 0));
        x.mark(1, 1, true);
        due("the unread mark is there, and read wins in its minute", 1, () -> x.sync(1));
        Reader y = withThree();
        y.addDevice();
        y.addDevice();
        y.mark(1, 0, true);
        y.pass(1);
        y.mark(0, 0, false);
        due("unread alone turns nothing", 0, () -> y.sync(0));
        due("and is the reader's, later than read", 0, () -> y.sync(1));
        due("so that it wins", false, () -> y.isReadOn(1, 0));
    }

    private static void noMarkOnTheDevice() {
        promise("a mark on the reader alone");
        Reader x = withThree();
        x.addDevice();
        x.addDevice();
        x.mark(0, 0, true);
        x.mark(0, 1, false);
        x.sync(0);
        due("the device has none yet", false, () -> x.isReadOn(1, 0));
        due("nothing turns for the reader", 0, () -> x.sync(1));
        due("read for the device", true, () -> x.isReadOn(1, 0));
        due("unread for the device", false, () -> x.isReadOn(1, 1));
        due("read for the reader as before", true, () -> x.isRead(0));
        x.pass(1);
        x.mark(0, 0, false);
        x.sync(0);
        due("the reader's mark is older on the device", true, () -> x.isReadOn(1, 0));
        due("it does not win", 0, () -> x.sync(1));
        due("unread for both", false, () -> x.isReadOn(1, 0));
    }
}
