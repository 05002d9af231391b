/**
 * Which exception comes first where several apply, and that a call that throws changes nothing; nor does a question.
 * Each call gets an object of its own, and a twin of it that does not get the call.
 */
public final class FeedloomRefusals extends Checks {
    private static final int[] BESIDE = {-1, LEAST, GREATEST};

    public static void main(String[] args) {
        passOutOfRangeAtTheEnd();
        fetchSourceFirst();
        fetchArgumentsBeforeRoom();
        fetchWithSeveralWrongArguments();
        fetchOfAKnownItem();
        titleItemFirst();
        addRuleArgumentsBeforeRoom();
        addRiverArgumentsBeforeRoom();
        riverBeforeRank();
        rankOfNumbersFirst();
        riverBeforeAllIsRead();
        riverBeforeItShowsNone();
        markNumbersFirst();
        isReadOnNumbersFirst();
        severalNumbersWrong();
        theBusyOneRefuses();
        theFullOneRefuses();
        theUnknownItemIsRefused();
        refusedCallsInARow();
        questionsChangeNothing();
        questionsOfTheFullOneChangeNothing();
        end();
    }

    private interface Asked {
        Object on(Reader x);
    }

    /**
     * Some of everything: 3 sources, 7 items, 4 rules, 3 rivers of which one shows none, 2 devices of which the first
     * does not know the last items, marks of several minutes on both and on the reader.
     */
    private static Reader busy() {
        Reader x = withSources(3);
        x.setThreshold(50);
        x.setWindow(200);
        x.pass(100);
        for (int item = 0; item < 5; item++) {
            x.fetch(item % 3, item, item, apart(item), 100 - 10 * item);
        }
        x.addDevice();
        x.addDevice();
        x.mark(0, 0, true);
        x.mark(1, 1, true);
        x.pass(50);
        x.sync(1);
        x.mark(0, 1, false);
        x.mark(1, 2, true);
        x.fetch(0, 0, NONE, 1L << 40, NONE);
        x.fetch(1, 5, 5, apart(5), 10);
        x.sync(1);
        x.fetch(2, 6, NONE, apart(6), NONE);
        x.addRule(1L, 0L, 0, NONE, 0);
        x.addRule(0L, apart(1) | apart(2), 0, NONE, 7);
        x.addRule(0L, 0L, 4, 7, HIDE);
        x.addRule(0L, 0L, 0, NONE, 3);
        x.addRiver(7, NONE);
        x.addRiver(2, 7);
        x.addRiver(32, NONE);
        return x;
    }

    /** As much of everything as there can be, and the last minute. */
    private static Reader full() {
        Reader x = withSources(6);
        for (int item = 0; item < 30; item++) {
            if (item == 20) {
                x.addDevice();
                x.addDevice();
                markRead(x, 0, 10);
            }
            x.fetch(item % 6, item, item, apart(item), NONE);
        }
        for (int i = 0; i < 49; i++) {
            x.pass(2000);
        }
        x.pass(1999);
        x.addDevice();
        x.addDevice();
        markRead(x, 2, 5);
        x.sync(2);
        for (int i = 0; i < 4; i++) {
            x.addRiver(1 << i, NONE);
        }
        for (int i = 0; i < 6; i++) {
            x.addRule(0L, apart(i), 0, NONE, i == 5 ? HIDE : i);
        }
        return x;
    }

    private static void markRead(Reader x, int device, int items) {
        for (int item = 0; item < items; item++) {
            x.mark(device, item, true);
        }
    }

    private static void eachRefused(String what, Class<?> want, Reader x, Asked call) {
        Reader own = x.anew();
        refused(what, own, want, () -> call.on(own));
    }

    // ---- the order of the exceptions

    private static void passOutOfRangeAtTheEnd() {
        promise("2 pass, the number out of range ahead of the last minute");
        Reader x = full();
        for (int minutes : new int[] {0, -1, LEAST, 2001, 99999, GREATEST}) {
            eachRefused("" + minutes, ARGUMENT, x, y -> y.pass(minutes));
        }
        for (int minutes : new int[] {1, 2, 2000}) {
            eachRefused("" + minutes, STATE, x, y -> y.pass(minutes));
        }
    }

    private static void fetchSourceFirst() {
        promise("8 fetch, no such source ahead of all else");
        for (int source : new int[] {-1, LEAST, 6, GREATEST}) {
            Reader x = full();
            eachRefused("no room, " + source, INDEX, x, y -> y.fetch(source, NONE, NONE, apart(30), NONE));
            eachRefused("identifier, " + source, INDEX, x, y -> y.fetch(source, -2, NONE, apart(30), NONE));
            eachRefused("link, " + source, INDEX, x, y -> y.fetch(source, NONE, 1000, apart(30), NONE));
            eachRefused("no words, " + source, INDEX, x, y -> y.fetch(source, NONE, NONE, 0L, NONE));
            eachRefused("told, " + source, INDEX, x, y -> y.fetch(source, NONE, NONE, apart(30), 100000));
            eachRefused("all, " + source, INDEX, x, y -> y.fetch(source, 1000, -2, 0L, -2));
            eachRefused("a known link, " + source, INDEX, x, y -> y.fetch(source, NONE, 3, apart(30), NONE));
            eachRefused("a known title, " + source, INDEX, x, y -> y.fetch(source, 50, 50, apart(3), NONE));
        }
        eachRefused("of 3 sources, all", INDEX, busy(), y -> y.fetch(3, 1000, -2, 0L, -2));
    }

    private static void fetchArgumentsBeforeRoom() {
        promise("8 fetch, arguments ahead of the 30 items");
        Reader x = full();
        for (int key : new int[] {-2, LEAST, 1000, GREATEST}) {
            eachRefused("identifier " + key, ARGUMENT, x, y -> y.fetch(5, key, 998, apart(30), NONE));
            eachRefused("link " + key, ARGUMENT, x, y -> y.fetch(5, 998, key, apart(30), NONE));
        }
        for (int told : new int[] {-2, LEAST, 100000, GREATEST}) {
            eachRefused("told " + told, ARGUMENT, x, y -> y.fetch(5, 998, 998, apart(30), told));
        }
        eachRefused("no words", ARGUMENT, x, y -> y.fetch(5, 998, 998, 0L, NONE));
        eachRefused("all of them", ARGUMENT, x, y -> y.fetch(5, 1000, -2, 0L, -2));
        eachRefused("room alone", STATE, x, y -> y.fetch(5, 998, 998, apart(30), NONE));
        eachRefused("room alone, without keys", STATE, x, y -> y.fetch(0, NONE, NONE, apart(30), 99999));
    }

    private static void fetchWithSeveralWrongArguments() {
        promise("8 fetch, several arguments");
        Reader x = busy();
        eachRefused("identifier and link", ARGUMENT, x, y -> y.fetch(0, -2, 1000, 1L, NONE));
        eachRefused("identifier and told", ARGUMENT, x, y -> y.fetch(0, 1000, NONE, 1L, -2));
        eachRefused("link and no words", ARGUMENT, x, y -> y.fetch(0, NONE, -2, 0L, NONE));
        eachRefused("told and no words", ARGUMENT, x, y -> y.fetch(0, NONE, NONE, 0L, 100000));
        eachRefused("all", ARGUMENT, x, y -> y.fetch(0, -2, -2, 0L, -2));
    }

    /** Each of these would give a known item a source, a key or a version. */
    private static void fetchOfAKnownItem() {
        promise("8 fetch, of a known item");
        for (Reader x : new Reader[] {busy(), full()}) {
            eachRefused("by its pair, link wrong", ARGUMENT, x, y -> y.fetch(1, 1, 1000, 1L << 50, NONE));
            eachRefused("by its pair, no words", ARGUMENT, x, y -> y.fetch(1, 1, 50, 0L, NONE));
            eachRefused("by its pair, told wrong", ARGUMENT, x, y -> y.fetch(1, 1, 50, 1L << 50, -2));
            eachRefused("by its link, identifier wrong", ARGUMENT, x, y -> y.fetch(2, 1000, 1, 1L << 50, NONE));
            eachRefused("by its link, no words", ARGUMENT, x, y -> y.fetch(2, 50, 1, 0L, NONE));
            eachRefused("by its link, told wrong", ARGUMENT, x, y -> y.fetch(2, 50, 1, 1L << 50, 100000));
            eachRefused("by likeness, told wrong", ARGUMENT, x, y -> y.fetch(2, 50, 50, apart(1), 100000));
            eachRefused("by its link, no such source", INDEX, x, y -> y.fetch(6, 50, 1, 1L << 50, NONE));
        }
    }

    private static void titleItemFirst() {
        promise("12 title, no such item ahead of the version");
        Reader x = busy();
        for (int item : new int[] {-1, LEAST, 7, GREATEST}) {
            for (int version : new int[] {-1, LEAST, 0, 1, 5, GREATEST}) {
                eachRefused(item + ", " + version, INDEX, x, y -> y.title(item, version));
            }
        }
        for (int version : new int[] {-1, LEAST, 2, GREATEST}) {
            eachRefused("0, " + version, ELEMENT, x, y -> y.title(0, version));
        }
    }

    private static void addRuleArgumentsBeforeRoom() {
        promise("17 addRule, arguments ahead of the 6 rules");
        Reader x = full();
        for (int wrong : BESIDE) {
            eachRefused("sources " + wrong, ARGUMENT, x, y -> y.addRule(0L, 0L, wrong, NONE, 0));
            eachRefused("action " + wrong, ARGUMENT, x, y -> y.addRule(0L, 0L, 0, NONE, wrong));
        }
        eachRefused("sources 64", ARGUMENT, x, y -> y.addRule(0L, 0L, 64, NONE, 0));
        eachRefused("tag -2", ARGUMENT, x, y -> y.addRule(0L, 0L, 0, -2, 0));
        eachRefused("tag 8", ARGUMENT, x, y -> y.addRule(0L, 0L, 0, 8, 0));
        eachRefused("action 10", ARGUMENT, x, y -> y.addRule(0L, 0L, 0, NONE, 10));
        eachRefused("all of them", ARGUMENT, x, y -> y.addRule(-1L, -1L, 64, 8, 10));
        eachRefused("room alone", STATE, x, y -> y.addRule(0L, 0L, 0, NONE, 0));
        eachRefused("room alone, the last of each", STATE, x, y -> y.addRule(-1L, -1L, 63, 7, SHOW));
    }

    private static void addRiverArgumentsBeforeRoom() {
        promise("22 addRiver, arguments ahead of the 4 rivers");
        Reader x = full();
        for (int wrong : new int[] {0, -1, LEAST, 64, GREATEST}) {
            eachRefused("sources " + wrong, ARGUMENT, x, y -> y.addRiver(wrong, NONE));
        }
        for (int wrong : new int[] {-2, LEAST, 8, GREATEST}) {
            eachRefused("tag " + wrong, ARGUMENT, x, y -> y.addRiver(1, wrong));
        }
        eachRefused("both", ARGUMENT, x, y -> y.addRiver(64, 8));
        eachRefused("room alone", STATE, x, y -> y.addRiver(63, NONE));
        eachRefused("room alone, the last of each", STATE, x, y -> y.addRiver(63, 7));
    }

    private static void riverBeforeRank() {
        Reader x = busy();
        for (int river : new int[] {-1, LEAST, 3, GREATEST}) {
            for (int rank : new int[] {-1, LEAST, 0, 7, GREATEST}) {
                promise("24 riverAt, no such river ahead of the rank");
                eachRefused(river + ", " + rank, INDEX, x, y -> y.riverAt(river, rank));
                promise("25 riverAtAnew, no such river ahead of the rank");
                eachRefused(river + ", " + rank, INDEX, x, y -> y.riverAtAnew(river, rank));
            }
        }
        for (int rank : new int[] {-1, LEAST, 7, GREATEST}) {
            promise("24 riverAt, the rank alone");
            eachRefused("0, " + rank, ELEMENT, x, y -> y.riverAt(0, rank));
            eachRefused("2, " + rank, ELEMENT, x, y -> y.riverAt(2, rank));
            promise("25 riverAtAnew, the rank alone");
            eachRefused("0, " + rank, ELEMENT, x, y -> y.riverAtAnew(0, rank));
            eachRefused("2, " + rank, ELEMENT, x, y -> y.riverAtAnew(2, rank));
        }
    }

    private static void rankOfNumbersFirst() {
        promise("26 rankOf, no such river or item ahead of what the river shows");
        Reader x = busy();
        for (int wrong : BESIDE) {
            eachRefused("river " + wrong, INDEX, x, y -> y.rankOf(wrong, 0));
            eachRefused("item " + wrong, INDEX, x, y -> y.rankOf(0, wrong));
            eachRefused("item " + wrong + ", of a river that shows none", INDEX, x, y -> y.rankOf(2, wrong));
            eachRefused("both " + wrong, INDEX, x, y -> y.rankOf(wrong, wrong));
            eachRefused("river " + wrong + ", of a hidden item", INDEX, x, y -> y.rankOf(wrong, 2));
        }
        eachRefused("river 3", INDEX, x, y -> y.rankOf(3, 0));
        eachRefused("item 7", INDEX, x, y -> y.rankOf(2, 7));
        eachRefused("a hidden item", ELEMENT, x, y -> y.rankOf(0, 2));
        eachRefused("an item without the tag", ELEMENT, x, y -> y.rankOf(1, 4));
        eachRefused("an item of another source", ELEMENT, x, y -> y.rankOf(1, 0));
    }

    private static void riverBeforeAllIsRead() {
        promise("28 nextUnread, no such river ahead of all items read");
        Reader x = withSources(1);
        eachRefused("nothing at all", INDEX, x, y -> y.nextUnread(0));
        x.fetch(0, NONE, NONE, 1L, NONE);
        x.addRiver(1, NONE);
        x.addDevice();
        x.mark(0, 0, true);
        x.sync(0);
        for (int river : new int[] {-1, LEAST, 1, GREATEST}) {
            eachRefused("river " + river, INDEX, x, y -> y.nextUnread(river));
        }
        eachRefused("all read", ELEMENT, x, y -> y.nextUnread(0));
    }

    private static void riverBeforeItShowsNone() {
        promise("29 readShare, no such river ahead of no items");
        Reader x = withSources(1);
        eachRefused("nothing at all", INDEX, x, y -> y.readShare(0));
        x.addRiver(1, NONE);
        for (int river : new int[] {-1, LEAST, 1, GREATEST}) {
            eachRefused("river " + river, INDEX, x, y -> y.readShare(river));
        }
        eachRefused("no items", ARITHMETIC, x, y -> y.readShare(0));
    }

    private static void markNumbersFirst() {
        promise("31 mark, no such device or item ahead of an item that is not known");
        Reader x = busy();
        for (boolean read : new boolean[] {true, false}) {
            for (int wrong : BESIDE) {
                eachRefused("device " + wrong, INDEX, x, y -> y.mark(wrong, 0, read));
                eachRefused("device " + wrong + ", an item that none knows", INDEX, x, y -> y.mark(wrong, 6, read));
                eachRefused("item " + wrong, INDEX, x, y -> y.mark(0, wrong, read));
                eachRefused("both " + wrong, INDEX, x, y -> y.mark(wrong, wrong, read));
            }
            eachRefused("device 2", INDEX, x, y -> y.mark(2, 6, read));
            eachRefused("item 7", INDEX, x, y -> y.mark(0, 7, read));
            eachRefused("not known", STATE, x, y -> y.mark(0, 5, read));
            eachRefused("known to none", STATE, x, y -> y.mark(1, 6, read));
        }
    }

    private static void isReadOnNumbersFirst() {
        promise("35 isReadOn, no such device or item ahead of an item that is not known");
        Reader x = busy();
        for (int wrong : BESIDE) {
            eachRefused("device " + wrong, INDEX, x, y -> y.isReadOn(wrong, 0));
            eachRefused("device " + wrong + ", an item that none knows", INDEX, x, y -> y.isReadOn(wrong, 6));
            eachRefused("item " + wrong, INDEX, x, y -> y.isReadOn(0, wrong));
            eachRefused("both " + wrong, INDEX, x, y -> y.isReadOn(wrong, wrong));
        }
        eachRefused("device 2", INDEX, x, y -> y.isReadOn(2, 6));
        eachRefused("item 7", INDEX, x, y -> y.isReadOn(0, 7));
        eachRefused("not known", STATE, x, y -> y.isReadOn(0, 5));
        eachRefused("known to none", STATE, x, y -> y.isReadOn(1, 6));
    }

    private static void severalNumbersWrong() {
        promise("several numbers wrong, one exception");
        Reader x = busy();
        for (int wrong : BESIDE) {
            eachRefused("withIdentifier " + wrong, ELEMENT, x, y -> y.withIdentifier(wrong, wrong));
            eachRefused("markRiver " + wrong, INDEX, x, y -> y.markRiver(wrong, wrong));
            eachRefused("markRiver, device " + wrong, INDEX, x, y -> y.markRiver(wrong, 0));
            eachRefused("markRiver, river " + wrong, INDEX, x, y -> y.markRiver(0, wrong));
            eachRefused("knownVersions " + wrong, INDEX, x, y -> y.knownVersions(wrong, wrong));
            eachRefused("knownVersions, device " + wrong, INDEX, x, y -> y.knownVersions(wrong, 0));
            eachRefused("knownVersions, item " + wrong, INDEX, x, y -> y.knownVersions(0, wrong));
            eachRefused("addRule " + wrong, ARGUMENT, x, y -> y.addRule(0L, 0L, wrong, 8, wrong));
        }
        eachRefused("addRiver", ARGUMENT, x, y -> y.addRiver(0, 8));
        eachRefused("likeness", ARGUMENT, x, y -> y.likeness(0L, 0L));
    }

    // ---- nothing is changed

    private static void theBusyOneRefuses() {
        promise("refused by the busy one");
        Reader x = busy();
        eachRefused("pass", ARGUMENT, x, y -> y.pass(2001));
        eachRefused("setThreshold", ARGUMENT, x, y -> y.setThreshold(101));
        eachRefused("setThreshold of 0", ARGUMENT, x, y -> y.setThreshold(0));
        eachRefused("setWindow", ARGUMENT, x, y -> y.setWindow(1441));
        eachRefused("setWindow of -1", ARGUMENT, x, y -> y.setWindow(-1));
        eachRefused("likeness", ARGUMENT, x, y -> y.likeness(0L, 1L));
        eachRefused("fetch", ARGUMENT, x, y -> y.fetch(0, 50, 50, 0L, NONE));
        eachRefused("withIdentifier", ELEMENT, x, y -> y.withIdentifier(2, 0));
        eachRefused("withLink", ELEMENT, x, y -> y.withLink(6));
        eachRefused("addRule", ARGUMENT, x, y -> y.addRule(0L, 0L, 64, NONE, 0));
        eachRefused("addRiver", ARGUMENT, x, y -> y.addRiver(0, NONE));
        eachRefused("mark", STATE, x, y -> y.mark(0, 6, true));
        eachRefused("nextUnread", ELEMENT, x, y -> y.nextUnread(2));
        eachRefused("readShare", ARITHMETIC, x, y -> y.readShare(2));
        theNumbersAreRefused(x, 7, 4, 3, 2);
    }

    private static void theFullOneRefuses() {
        promise("refused by the full one");
        Reader x = full();
        eachRefused("pass", STATE, x, y -> y.pass(1));
        eachRefused("setThreshold", ARGUMENT, x, y -> y.setThreshold(101));
        eachRefused("setWindow", ARGUMENT, x, y -> y.setWindow(1441));
        eachRefused("addSource", STATE, x, y -> y.addSource());
        eachRefused("fetch", STATE, x, y -> y.fetch(0, 50, 50, apart(30), 99999));
        eachRefused("addRule", STATE, x, y -> y.addRule(0L, 0L, 0, NONE, SHOW));
        eachRefused("addRiver", STATE, x, y -> y.addRiver(63, NONE));
        eachRefused("addDevice", STATE, x, y -> y.addDevice());
        theNumbersAreRefused(x, 30, 6, 4, 4);
    }

    /** Each call that names an item, a rule, a river or a device, with the number just behind the last one. */
    private static void theNumbersAreRefused(Reader x, int items, int rules, int rivers, int devices) {
        eachRefused("title", INDEX, x, y -> y.title(items, 0));
        eachRefused("versions", INDEX, x, y -> y.versions(items));
        eachRefused("latestMajor", INDEX, x, y -> y.latestMajor(items));
        eachRefused("sourcesOf", INDEX, x, y -> y.sourcesOf(items));
        eachRefused("timeOf", INDEX, x, y -> y.timeOf(items));
        eachRefused("tagsOf", INDEX, x, y -> y.tagsOf(items));
        eachRefused("isHidden", INDEX, x, y -> y.isHidden(items));
        eachRefused("isRead", INDEX, x, y -> y.isRead(items));
        eachRefused("dropRule", INDEX, x, y -> y.dropRule(rules));
        eachRefused("dropRule of -1", INDEX, x, y -> y.dropRule(-1));
        eachRefused("matches", INDEX, x, y -> y.matches(rules));
        eachRefused("riverSize", INDEX, x, y -> y.riverSize(rivers));
        eachRefused("riverAt", INDEX, x, y -> y.riverAt(rivers, 0));
        eachRefused("riverAtAnew", INDEX, x, y -> y.riverAtAnew(rivers, 0));
        eachRefused("rankOf", INDEX, x, y -> y.rankOf(rivers, 0));
        eachRefused("unread", INDEX, x, y -> y.unread(rivers));
        eachRefused("nextUnread", INDEX, x, y -> y.nextUnread(rivers));
        eachRefused("readShare", INDEX, x, y -> y.readShare(rivers));
        eachRefused("mark of an item", INDEX, x, y -> y.mark(0, items, true));
        eachRefused("mark on a device", INDEX, x, y -> y.mark(devices, 0, true));
        eachRefused("markRiver of a river", INDEX, x, y -> y.markRiver(0, rivers));
        eachRefused("markRiver on a device", INDEX, x, y -> y.markRiver(devices, 0));
        eachRefused("sync", INDEX, x, y -> y.sync(devices));
        eachRefused("sync of -1", INDEX, x, y -> y.sync(-1));
        eachRefused("isReadOn", INDEX, x, y -> y.isReadOn(devices, 0));
        eachRefused("knownVersions", INDEX, x, y -> y.knownVersions(devices, 0));
    }

    /** An item that a device does not know: the refused mark is not there after the sync either. */
    private static void theUnknownItemIsRefused() {
        promise("31 mark, refused as it is not known");
        Reader x = busy();
        eachRefused("read", STATE, x, y -> y.mark(0, 5, true));
        eachRefused("unread", STATE, x, y -> y.mark(0, 5, false));
        x.mark(1, 5, false);
        x.sync(1);
        refused("read, and the reader has a mark", x, STATE, () -> x.mark(0, 5, true));
        due("the item 1 alone turns by a sync", 1, () -> x.sync(0));
        due("not read", false, () -> x.isRead(5));
        due("nor on the device", false, () -> x.isReadOn(0, 5));
    }

    private static void refusedCallsInARow() {
        promise("refused calls in a row");
        Reader x = busy();
        due("now", 150, x::now);
        for (int i = 0; i < 10; i++) {
            due("pass", ARGUMENT, () -> x.pass(0));
            due("fetch", ARGUMENT, () -> x.fetch(0, 50, 50, 0L, NONE));
            due("addRule", ARGUMENT, () -> x.addRule(0L, 0L, 0, NONE, 10));
            due("addRiver", ARGUMENT, () -> x.addRiver(64, NONE));
            due("mark", STATE, () -> x.mark(0, 6, true));
            due("dropRule", INDEX, () -> x.dropRule(4));
        }
        due("now as before", 150, x::now);
        due("items as before", 7, x::items);
        due("the next rule", 4, () -> x.addRule(0L, 0L, 0, NONE, 0));
        due("the next river", 3, () -> x.addRiver(1, NONE));
        due("the next item", 7, () -> x.fetch(0, 50, 50, apart(25), NONE));
    }

    // ---- questions

    private static void eachUnchanged(String what, Object want, Reader x, Asked call) {
        Reader own = x.anew();
        unchanged(what, own, want, () -> call.on(own));
    }

    private static void questionsChangeNothing() {
        promise("questions change nothing");
        Reader x = busy();
        eachUnchanged("now", 150, x, y -> y.now());
        eachUnchanged("likeness", 50, x, y -> y.likeness(1L, 3L));
        eachUnchanged("items", 7, x, y -> y.items());
        eachUnchanged("withIdentifier", 5, x, y -> y.withIdentifier(1, 5));
        eachUnchanged("withLink", 5, x, y -> y.withLink(5));
        eachUnchanged("title", apart(0), x, y -> y.title(0, 0));
        eachUnchanged("versions", 2, x, y -> y.versions(0));
        eachUnchanged("latestMajor", 1, x, y -> y.latestMajor(0));
        eachUnchanged("sourcesOf", 2, x, y -> y.sourcesOf(5));
        eachUnchanged("timeOf", 60, x, y -> y.timeOf(4));
        eachUnchanged("tagsOf", 136, x, y -> y.tagsOf(1));
        eachUnchanged("isHidden", true, x, y -> y.isHidden(2));
        eachUnchanged("matches", 2, x, y -> y.matches(1));
        eachUnchanged("riverSize", 6, x, y -> y.riverSize(0));
        eachUnchanged("riverAt", 5, x, y -> y.riverAt(0, 5));
        eachUnchanged("riverAtAnew", 5, x, y -> y.riverAtAnew(0, 5));
        eachUnchanged("rankOf", 5, x, y -> y.rankOf(0, 5));
        eachUnchanged("unread", 5, x, y -> y.unread(0));
        eachUnchanged("nextUnread", 6, x, y -> y.nextUnread(0));
        eachUnchanged("readShare", 1.0f, x, y -> y.readShare(1));
        eachUnchanged("isRead", true, x, y -> y.isRead(1));
        eachUnchanged("isReadOn", false, x, y -> y.isReadOn(0, 1));
        eachUnchanged("knownVersions", 0, x, y -> y.knownVersions(0, 5));
        eachUnchanged("meanVersions", 8.0 / 7.0, x, y -> y.meanVersions());
        eachUnchanged("isSound", true, x, y -> y.isSound());
    }

    private static void questionsOfTheFullOneChangeNothing() {
        promise("questions of the full one change nothing");
        Reader x = full();
        eachUnchanged("now", 99999, x, y -> y.now());
        eachUnchanged("items", 30, x, y -> y.items());
        eachUnchanged("matches", 1, x, y -> y.matches(5));
        eachUnchanged("riverSize", 5, x, y -> y.riverSize(3));
        eachUnchanged("riverAt", 3, x, y -> y.riverAt(3, 4));
        eachUnchanged("riverAtAnew", 3, x, y -> y.riverAtAnew(3, 4));
        eachUnchanged("rankOf", 4, x, y -> y.rankOf(3, 3));
        eachUnchanged("unread", 4, x, y -> y.unread(3));
        eachUnchanged("nextUnread", 27, x, y -> y.nextUnread(3));
        eachUnchanged("readShare", 0.2f, x, y -> y.readShare(3));
        eachUnchanged("isRead", true, x, y -> y.isRead(4));
        eachUnchanged("isReadOn", true, x, y -> y.isReadOn(0, 9));
        eachUnchanged("knownVersions", 0, x, y -> y.knownVersions(1, 20));
        eachUnchanged("meanVersions", 1.0, x, y -> y.meanVersions());
        eachUnchanged("isSound", true, x, y -> y.isSound());
    }
}
