/**
 * Where the document compares: the case of equality and the ones just beside it; and the ends of the sets, the word
 * 63, the tag 7 and the source 5, so that no shift and no sign goes wrong.
 */
public final class FeedloomBounds extends Checks {
    public static void main(String[] args) {
        likenessRoundedDown();
        likenessOfEachPair();
        alikeAtTheFirstThreshold();
        alikeAtEachThreshold();
        majorAtTheFirstThreshold();
        majorAtEachThreshold();
        majorStaysUnderAnotherThreshold();
        majorAgainstTheVersionBefore();
        sameTitleIsNoVersion();
        windowAtFirst();
        windowOfNone();
        windowAtItsWidest();
        windowWiderThanAllTime();
        windowFromTheFirstFetch();
        greatestLikeness();
        greatestLikenessInTheWindow();
        likenessToTheLatestVersion();
        pairBeforeLinkBeforeLikeness();
        keysGoToTheFirst();
        timeToldLater();
        timeToldEarlier();
        timeAtTheFirstMinutes();
        timeAtTheLastMinute();
        timeDoesNotChange();
        ruleAllWordsButOne();
        ruleTagByALowerNumber();
        ruleHidesAndShows();
        ruleHoldsAsItIsThen();
        ruleDropped();
        riverOrder();
        riverEachItemOnce();
        readAtTheMajorVersion();
        readAtTheMajorVersionKnown();
        knownWhenAddedOrSynced();
        markedAtTheVersionKnown();
        mergeByMinute();
        mergeByKind();
        mergeByVersion();
        mergeGivesBothTheMark();
        mergeCountsBothWays();
        mergeAgain();
        mergeWhatIsNotKnown();
        markInPlaceOfTheOldOne();
        markOfTheReaderOnANewDevice();
        lastWord();
        lastTag();
        lastSource();
        lastOfEverything();
        end();
    }

    // ---- likeness

    /** A title of the first words, so many of them. */
    private static long first(int words) {
        return -1L >>> 64 - words;
    }

    private static void likenessRoundedDown() {
        promise("likeness, rounded down");
        Reader x = new Reader();
        due("1 of 3, 33.3", 33, () -> x.likeness(1L, 7L));
        due("2 of 3, 66.7", 66, () -> x.likeness(3L, 7L));
        due("5 of 6, 83.3", 83, () -> x.likeness(first(5), first(6)));
        due("6 of 7, 85.7", 85, () -> x.likeness(first(6), first(7)));
        due("63 of 64, 98.4", 98, () -> x.likeness(first(63), first(64)));
        due("62 of 63, 98.4", 98, () -> x.likeness(first(62), first(63)));
        due("1 of 64, 1.6", 1, () -> x.likeness(1L, first(64)));
        due("37 of 62, 59.7", 59, () -> x.likeness(first(37), first(62)));
        due("3 of 5, 60", 60, () -> x.likeness(first(3), first(5)));
        due("1 of 2, 50", 50, () -> x.likeness(1L, 3L));
        due("1 of 3, each with one of its own", 33, () -> x.likeness(3L, 6L));
        due("equal, 100", 100, () -> x.likeness(7L, 7L));
        due("nothing in common, 0", 0, () -> x.likeness(1L, 2L));
    }

    private static void likenessOfEachPair() {
        promise("likeness, of each number of words");
        for (int all = 1; all <= 64; all++) {
            Reader x = new Reader();
            for (int both = 1; both <= all; both++) {
                long title = first(both);
                long other = first(all);
                int want = 100 * both / all;
                due(both + " of " + all, want, () -> x.likeness(title, other));
                due(both + " of " + all + ", the other way", want, () -> x.likeness(other, title));
            }
        }
    }

    /** Whether the second title, without keys, is taken for the item of the first one. */
    private static void alike(String what, boolean want, int threshold, long title, long other) {
        Reader x = withSources(1);
        if (threshold != 60) {
            x.setThreshold(threshold);
        }
        x.fetch(0, NONE, NONE, title, NONE);
        due(what, want ? 0 : 1, () -> x.fetch(0, NONE, NONE, other, NONE));
    }

    private static void alikeAtTheFirstThreshold() {
        promise("alike at 60, for the third rule of fetching");
        alike("60, equal", true, 60, first(3), first(5));
        alike("61", true, 60, first(11), first(18));
        alike("59", false, 60, first(16), first(27));
        alike("59.7, rounded down", false, 60, first(37), first(62));
        alike("60.0, 36 of 60", true, 60, first(36), first(60));
        alike("50", false, 60, 1L, 3L);
        alike("66", true, 60, 3L, 7L);
        alike("100", true, 60, 1L, 1L);
        alike("0", false, 60, 1L, 2L);
    }

    private static void alikeAtEachThreshold() {
        promise("alike at each threshold");
        for (int all = 1; all <= 64; all++) {
            for (int both = 1; both <= all; both++) {
                int likeness = 100 * both / all;
                alike(likeness + " at " + likeness, true, likeness, first(both), first(all));
                if (likeness < 100) {
                    alike(likeness + " at one more", false, likeness + 1, first(both), first(all));
                }
                if (likeness > 1) {
                    alike(likeness + " at one less", true, likeness - 1, first(both), first(all));
                }
            }
        }
        alike("0 at 1", false, 1, 1L, 2L);
        alike("1 at 1", true, 1, 1L, -1L);
        alike("99 at most at 100", false, 100, -1L, Long.MAX_VALUE);
        alike("100 at 100", true, 100, -1L, -1L);
    }

    /** Whether the second title, as a version of the item of the first one, is major. */
    private static void major(String what, boolean want, int threshold, long title, long other) {
        Reader x = withSources(1);
        x.fetch(0, 1, NONE, title, NONE);
        if (threshold != 60) {
            x.setThreshold(threshold);
        }
        x.fetch(0, 1, NONE, other, NONE);
        due(what, want ? 1 : 0, () -> x.latestMajor(0));
        due(what + ", two versions", 2, () -> x.versions(0));
    }

    private static void majorAtTheFirstThreshold() {
        promise("major at 60");
        major("60, equal", false, 60, first(3), first(5));
        major("61", false, 60, first(11), first(18));
        major("59", true, 60, first(16), first(27));
        major("59.7, rounded down", true, 60, first(37), first(62));
        major("50", true, 60, 1L, 3L);
        major("66", false, 60, 3L, 7L);
        major("0", true, 60, 1L, 2L);
    }

    private static void majorAtEachThreshold() {
        promise("major at each threshold");
        for (int all = 2; all <= 64; all++) {
            for (int both = 1; both < all; both++) {
                int likeness = 100 * both / all;
                major(likeness + " at " + likeness, false, likeness, first(both), first(all));
                major(likeness + " at one more", true, likeness + 1, first(both), first(all));
            }
        }
        major("0 at 1", true, 1, 1L, 2L);
        major("1 at 1", false, 1, 1L, -1L);
        major("98 at 100", true, 100, -1L, Long.MAX_VALUE);
    }

    private static void majorStaysUnderAnotherThreshold() {
        promise("4 setThreshold, items and majors stay");
        Reader x = withSources(1);
        x.fetch(0, 1, NONE, first(3), NONE);
        x.fetch(0, 1, NONE, first(5), NONE);
        x.fetch(0, 2, NONE, Long.MIN_VALUE, NONE);
        x.fetch(0, 2, NONE, Long.MIN_VALUE >> 1, NONE);
        for (int percent : new int[] {100, 61, 60, 59, 50, 1}) {
            x.setThreshold(percent);
            due("not major at " + percent, 0, () -> x.latestMajor(0));
            due("major at " + percent, 1, () -> x.latestMajor(1));
            due("two items at " + percent, 2, x::items);
        }
    }

    private static void majorAgainstTheVersionBefore() {
        promise("major against the version before, not against the major one before");
        Reader x = withSources(1);
        x.fetch(0, 1, NONE, first(10), NONE);
        x.fetch(0, 1, NONE, first(6), NONE);
        due("60 is alike", 0, () -> x.latestMajor(0));
        x.fetch(0, 1, NONE, first(4), NONE);
        due("66 of the version before is alike, 40 of the major one", 0, () -> x.latestMajor(0));
        x.fetch(0, 1, NONE, first(10), NONE);
        due("40 of the version before is major, 100 of the major one", 3, () -> x.latestMajor(0));
        x.fetch(0, 1, NONE, first(9), NONE);
        due("90 is alike", 3, () -> x.latestMajor(0));
        x.fetch(0, 1, NONE, Long.MIN_VALUE, NONE);
        due("0 is major", 5, () -> x.latestMajor(0));
    }

    private static void sameTitleIsNoVersion() {
        promise("a title that is the same as the latest one");
        Reader x = withSources(2);
        x.setThreshold(100);
        x.fetch(0, 1, 1, Long.MIN_VALUE, NONE);
        due("by the pair", 0, () -> x.fetch(0, 1, NONE, Long.MIN_VALUE, NONE));
        due("by the link", 0, () -> x.fetch(1, NONE, 1, Long.MIN_VALUE, NONE));
        due("by likeness", 0, () -> x.fetch(1, NONE, NONE, Long.MIN_VALUE, NONE));
        due("is no version", 1, () -> x.versions(0));
        x.fetch(0, 1, NONE, Long.MIN_VALUE | 1L, NONE);
        due("one word more is one", 2, () -> x.versions(0));
        x.fetch(0, 1, NONE, 1L, NONE);
        due("one word less is one", 3, () -> x.versions(0));
        x.fetch(0, 1, NONE, Long.MIN_VALUE, NONE);
        due("a title of an earlier version is one", 4, () -> x.versions(0));
        due("and major", 3, () -> x.latestMajor(0));
        due("its first title", Long.MIN_VALUE, () -> x.title(0, 0));
        due("its last title", Long.MIN_VALUE, () -> x.title(0, 3));
    }

    // ---- the window

    private static int again(Reader x, long title) {
        return x.fetch(0, NONE, NONE, title, NONE);
    }

    private static void windowAtFirst() {
        promise("not more minutes ago than 180");
        for (int start : new int[] {0, 1, 500}) {
            Reader x = withSources(1);
            if (start > 0) {
                x.pass(start);
            }
            due("new", 0, () -> again(x, 1L));
            x.pass(179);
            due("179", 0, () -> again(x, 1L));
            x.pass(1);
            due("180, equal", 0, () -> again(x, 1L));
            x.pass(1);
            due("181", 1, () -> again(x, 1L));
        }
    }

    private static void windowOfNone() {
        promise("not more minutes ago than 0");
        Reader x = withSources(1);
        x.setWindow(0);
        due("new", 0, () -> again(x, 1L));
        due("0, equal", 0, () -> again(x, 1L));
        x.pass(1);
        due("1", 1, () -> again(x, 1L));
        due("0 of the other one", 1, () -> again(x, 1L));
        x.setWindow(1);
        due("1 of 1, equal, and the lower number", 0, () -> again(x, 1L));
        x.pass(1);
        due("2 of 1, and 1 of 1", 1, () -> again(x, 1L));
        x.pass(1);
        due("3 of 1, and 2 of 1", 2, () -> again(x, 1L));
    }

    private static void windowAtItsWidest() {
        promise("not more minutes ago than 1440");
        for (int start : new int[] {0, 1, 2000}) {
            Reader x = withSources(1);
            x.setWindow(1440);
            if (start > 0) {
                x.pass(start);
            }
            due("new", 0, () -> again(x, 1L));
            x.pass(1439);
            due("1439", 0, () -> again(x, 1L));
            x.pass(1);
            due("1440, equal", 0, () -> again(x, 1L));
            x.pass(1);
            due("1441", 1, () -> again(x, 1L));
        }
    }

    private static void windowWiderThanAllTime() {
        promise("a window that is wider than the time that has passed");
        Reader x = withSources(1);
        due("new", 0, () -> again(x, 1L));
        due("at the minute 0", 0, () -> again(x, 1L));
        x.setWindow(1440);
        x.pass(1);
        due("at the minute 1", 0, () -> again(x, 1L));
    }

    private static void windowFromTheFirstFetch() {
        promise("an item is seen when it is new, and not later");
        Reader x = withSources(1);
        x.fetch(0, 1, 1, 1L, NONE);
        x.pass(100);
        x.fetch(0, 1, 1, 1L, NONE);
        x.fetch(0, 1, 1, 3L, 100);
        x.pass(80);
        due("180 from the first", 0, () -> again(x, 3L));
        x.pass(1);
        due("181 from the first, 81 from the last", 1, () -> again(x, 3L));
        Reader y = withSources(1);
        y.pass(1000);
        y.fetch(0, 1, 1, 1L, 0);
        y.pass(180);
        due("its time does not count", 0, () -> again(y, 1L));
        y.pass(1);
        due("nor behind it", 1, () -> again(y, 1L));
    }

    // ---- the item of a fetch

    private static void greatestLikeness() {
        promise("the greatest likeness, and the lowest number");
        Reader x = withSources(1);
        x.setThreshold(1);
        x.fetch(0, 1, NONE, 0b0000_0001_1111L, NONE);
        x.fetch(0, 2, NONE, 0b0111_1110_0000L, NONE);
        due("5 of 11 and 6 of 11", 1, () -> x.fetch(0, 3, NONE, 0b0111_1111_1111L, NONE));
        Reader y = withSources(1);
        y.setThreshold(1);
        y.fetch(0, 1, NONE, 0b0001_1111L, NONE);
        y.fetch(0, 2, NONE, 0b0011_1110_0000L, NONE);
        due("5 of 10 twice", 0, () -> y.fetch(0, 3, NONE, 0b0011_1111_1111L, NONE));
        Reader z = withSources(1);
        z.setThreshold(1);
        z.fetch(0, 1, NONE, first(31), NONE);
        z.fetch(0, 2, NONE, first(63) & ~first(31), NONE);
        due("31 of 63 and 32 of 63, 49 and 50", 1, () -> z.fetch(0, 3, NONE, first(63), NONE));
        Reader w = withSources(1);
        w.setThreshold(1);
        w.fetch(0, 1, NONE, 1L << 60, NONE);
        w.fetch(0, 2, NONE, first(20), NONE);
        w.fetch(0, 3, NONE, first(41) & ~first(20), NONE);
        w.fetch(0, 4, NONE, first(60) & ~first(41), NONE);
        due("of three, the one in the middle of the numbers", 2, () -> w.fetch(0, 5, NONE, first(60), NONE));
        equalWhenRoundedDown();
    }

    /** 1 of 64 and 1 of 63 are both 1: the likeness is what is rounded down, so that the lower number counts. */
    private static void equalWhenRoundedDown() {
        Reader x = withSources(1);
        x.setThreshold(1);
        x.fetch(0, 1, NONE, 0b01L | Long.MIN_VALUE, NONE);
        x.fetch(0, 2, NONE, 0b10L, NONE);
        due("1 of 64 and 1 of 63", 0, () -> x.fetch(0, 3, NONE, Long.MAX_VALUE, NONE));
    }

    private static void greatestLikenessInTheWindow() {
        promise("the greatest likeness of those in the window");
        Reader x = withSources(1);
        x.setThreshold(50);
        x.fetch(0, 1, NONE, 0b1111L, NONE);
        x.pass(1);
        x.fetch(0, 2, NONE, 0b0011L << 4, NONE);
        x.fetch(0, 2, NONE, 0b0011L, NONE);
        x.pass(180);
        due("100 is 181 minutes ago, 50 is 180", 1, () -> x.fetch(0, NONE, NONE, 0b1111L, NONE));
        due("and has the title as its version", 0b1111L, () -> x.title(1, 2));
    }

    private static void likenessToTheLatestVersion() {
        promise("likeness to the title of the latest version");
        Reader x = withSources(1);
        x.fetch(0, 1, NONE, 0b0011L, NONE);
        x.fetch(0, 1, NONE, 0b1100L, NONE);
        due("not to the one before", 1, () -> x.fetch(0, NONE, NONE, 0b0011L, NONE));
        due("but to the latest", 0, () -> x.fetch(0, NONE, NONE, 0b1100L, NONE));
    }

    private static void pairBeforeLinkBeforeLikeness() {
        promise("the first of the rules that finds an item");
        Reader x = withSources(2);
        x.fetch(0, 1, NONE, 0b0001L, NONE);
        x.fetch(0, NONE, 2, 0b0010L, NONE);
        x.fetch(0, NONE, NONE, 0b0100L, NONE);
        due("pair, link and likeness", 0, () -> x.fetch(0, 1, 2, 0b0100L, NONE));
        due("the link stays", 1, () -> x.withLink(2));
        x.fetch(0, 1, NONE, 0b0001L, NONE);
        due("no such pair, link and likeness", 1, () -> x.fetch(1, 1, 2, 0b0100L, NONE));
        x.fetch(0, NONE, 2, 0b0010L, NONE);
        due("no such pair, no such link, likeness", 2, () -> x.fetch(0, 3, 3, 0b0100L, NONE));
        due("none of them", 3, () -> x.fetch(0, 4, 4, 0b1000L, NONE));
        due("four items", 4, x::items);
    }

    private static void keysGoToTheFirst() {
        promise("a pair and a link belong to one item");
        Reader x = withSources(2);
        x.fetch(0, 1, 1, 0b01L, NONE);
        x.fetch(0, 2, 2, 0b10L, NONE);
        due("found by the pair, with the other's link", 0, () -> x.fetch(0, 1, 2, 0b01L, NONE));
        due("the link is the other's", 1, () -> x.withLink(2));
        due("found by the pair, with a new link", 0, () -> x.fetch(0, 1, 3, 0b01L, NONE));
        due("the link is its own", 0, () -> x.withLink(3));
        due("found by the link, with a new pair", 0, () -> x.fetch(1, 1, 3, 0b01L, NONE));
        due("the pair is its own", 0, () -> x.withIdentifier(1, 1));
        due("the same identifier of the other source as before", 0, () -> x.withIdentifier(0, 1));
        due("told by both", 0b11, () -> x.sourcesOf(0));
        due("told by one", 0b01, () -> x.sourcesOf(1));
        due("a new item takes both", 2, () -> x.fetch(1, 2, 4, 0b100L, NONE));
        due("its pair", 2, () -> x.withIdentifier(1, 2));
        due("its link", 2, () -> x.withLink(4));
        due("the pair of the other source", 1, () -> x.withIdentifier(0, 2));
    }

    // ---- the time of an item

    private static Object timeOfOne(int minute, int told) {
        Reader x = withSources(1);
        for (int left = minute; left > 0; left -= 2000) {
            x.pass(Math.min(left, 2000));
        }
        x.fetch(0, NONE, NONE, 1L, told);
        return x.timeOf(0);
    }

    private static void timeToldLater() {
        promise("a minute told that is not later than the one at which the item was seen");
        for (int minute : new int[] {0, 1, 1440, 5000}) {
            due("equal, at " + minute, minute, () -> timeOfOne(minute, minute));
            due("one later, at " + minute, minute, () -> timeOfOne(minute, minute + 1));
            due("the last one, at " + minute, minute, () -> timeOfOne(minute, 99999));
            due("NONE, at " + minute, minute, () -> timeOfOne(minute, NONE));
        }
        due("one earlier, at 1", 0, () -> timeOfOne(1, 0));
        due("one earlier, at 5000", 4999, () -> timeOfOne(5000, 4999));
    }

    private static void timeToldEarlier() {
        promise("a minute told that is not more than 1440 minutes earlier");
        for (int minute : new int[] {1441, 2000, 5000}) {
            due("1439, at " + minute, minute - 1439, () -> timeOfOne(minute, minute - 1439));
            due("1440, equal, at " + minute, minute - 1440, () -> timeOfOne(minute, minute - 1440));
            due("1441, at " + minute, minute, () -> timeOfOne(minute, minute - 1441));
            due("0, at " + minute, minute, () -> timeOfOne(minute, 0));
        }
        due("1442, at 2000", 2000, () -> timeOfOne(2000, 558));
    }

    private static void timeAtTheFirstMinutes() {
        promise("the minute 0 told");
        due("at 0", 0, () -> timeOfOne(0, 0));
        due("at 1", 0, () -> timeOfOne(1, 0));
        due("at 1439", 0, () -> timeOfOne(1439, 0));
        due("at 1440, equal", 0, () -> timeOfOne(1440, 0));
        due("at 1441", 1441, () -> timeOfOne(1441, 0));
    }

    private static void timeAtTheLastMinute() {
        promise("a minute told at the last minute");
        due("99999", 99999, () -> timeOfOne(99999, 99999));
        due("99998", 99998, () -> timeOfOne(99999, 99998));
        due("98559, 1440 earlier", 98559, () -> timeOfOne(99999, 98559));
        due("98558, 1441 earlier", 99999, () -> timeOfOne(99999, 98558));
        due("0", 99999, () -> timeOfOne(99999, 0));
        due("NONE", 99999, () -> timeOfOne(99999, NONE));
        due("99999 at 99998", 99998, () -> timeOfOne(99998, 99999));
    }

    private static void timeDoesNotChange() {
        promise("the time of an item does not change");
        Reader x = withSources(2);
        x.pass(100);
        x.fetch(0, 1, 1, 1L, 50);
        x.fetch(0, 2, 2, 2L, NONE);
        x.fetch(0, 3, 3, 4L, 200);
        x.fetch(0, 1, 1, 1L, 60);
        x.fetch(1, 1, 2, 8L, 60);
        x.pass(100);
        x.fetch(0, 3, NONE, 4L, 200);
        x.setWindow(0);
        due("told once more", 50, () -> x.timeOf(0));
        due("told at last", 100, () -> x.timeOf(1));
        due("told later, and later not so late", 100, () -> x.timeOf(2));
    }

    // ---- rules

    private static void ruleAllWordsButOne() {
        promise("all words of the all set");
        Reader x = withSources(1);
        x.setThreshold(100);
        x.fetch(0, 1, NONE, first(64), NONE);
        x.fetch(0, 2, NONE, first(63), NONE);
        x.fetch(0, 3, NONE, first(64) << 1, NONE);
        x.fetch(0, 4, NONE, first(64) & ~(1L << 31), NONE);
        x.fetch(0, 5, NONE, first(64) & ~(1L << 32), NONE);
        x.addRule(-1L, 0L, 0, NONE, 0);
        due("all of them", 1, () -> x.tagsOf(0));
        for (int item = 1; item < 5; item++) {
            int i = item;
            due("all but one, item " + i, 0, () -> x.tagsOf(i));
        }
        x.fetch(0, 2, NONE, -1L, NONE);
        due("all, by its latest version", 1, () -> x.tagsOf(1));
        x.fetch(0, 1, NONE, 1L, NONE);
        due("one, by its latest version", 0, () -> x.tagsOf(0));
    }

    private static void ruleTagByALowerNumber() {
        promise("a tag got by a rule with a lower number");
        Reader x = withSources(1);
        x.fetch(0, 1, NONE, 1L, NONE);
        x.addRule(0L, 0L, 0, 7, 6);
        x.addRule(0L, 0L, 0, 0, 0);
        x.addRule(0L, 0L, 0, NONE, 7);
        x.addRule(0L, 0L, 0, 7, 5);
        due("by a higher number", 0, () -> x.matches(0));
        due("by its own", 0, () -> x.matches(1));
        due("by the number just below", 1, () -> x.matches(3));
        due("tags", 0b10100000, () -> x.tagsOf(0));
        x.dropRule(2);
        due("not any more", 0, () -> x.matches(2));
        due("tags without it", 0, () -> x.tagsOf(0));
        x.addRule(0L, 0L, 0, NONE, 7);
        due("it is behind now", 0, () -> x.matches(2));
        x.addRule(0L, 0L, 0, 7, 5);
        due("and one behind it", 1, () -> x.matches(4));
        due("tags once more", 0b10100000, () -> x.tagsOf(0));
    }

    private static void ruleHidesAndShows() {
        promise("hiding and showing");
        Reader x = withSources(1);
        x.fetch(0, 1, NONE, 1L, NONE);
        x.addRule(0L, 0L, 0, NONE, 7);
        x.addRule(0L, 0L, 0, NONE, HIDE);
        x.addRule(0L, 0L, 0, 7, 0);
        due("hidden", true, () -> x.isHidden(0));
        due("a rule behind it gives its tag", 0b10000001, () -> x.tagsOf(0));
        due("and matches a hidden item", 1, () -> x.matches(2));
        x.addRule(0L, 0L, 0, 0, SHOW);
        due("not hidden any more", false, () -> x.isHidden(0));
        due("with its tags", 0b10000001, () -> x.tagsOf(0));
        x.addRule(0L, 0L, 0, 1, HIDE);
        due("one that does not hold does not hide", false, () -> x.isHidden(0));
        x.addRule(0L, 0L, 0, 7, HIDE);
        due("hidden once more", true, () -> x.isHidden(0));
        x.dropRule(5);
        x.dropRule(1);
        due("shown without having been hidden", false, () -> x.isHidden(0));
    }

    private static void ruleHoldsAsItIsThen() {
        promise("rules hold for all items, as they are then");
        Reader x = withSources(2);
        x.addRiver(1, 3);
        x.fetch(0, 1, NONE, 1L, NONE);
        x.addRule(1L, 0L, 2, NONE, 3);
        due("not told by the source", 0, () -> x.riverSize(0));
        x.fetch(1, NONE, NONE, 1L, NONE);
        due("told by it", 1, () -> x.riverSize(0));
        x.fetch(0, 1, NONE, 2L, NONE);
        due("without the word", 0, () -> x.riverSize(0));
        x.fetch(0, 1, NONE, 3L, NONE);
        due("with the word", 1, () -> x.riverSize(0));
        x.dropRule(0);
        due("without the rule", 0, () -> x.riverSize(0));
    }

    /** Each rule differs from the others in a condition and in its action, and some need the tags of those before. */
    private static Reader withRulesBut(int dropped) {
        Reader x = withSources(6);
        x.setThreshold(100);
        x.addRiver(63, 7);
        x.addRiver(63, NONE);
        x.fetch(5, 0, NONE, 1L, NONE);
        x.fetch(0, 1, NONE, Long.MIN_VALUE, NONE);
        x.fetch(1, 2, NONE, Long.MIN_VALUE | 1L, NONE);
        x.fetch(5, 3, NONE, 2L, NONE);
        x.fetch(2, 4, NONE, 4L, NONE);
        long[] all = {1L, 0L, 0L, 0L, Long.MIN_VALUE, 1L};
        long[] any = {0L, Long.MIN_VALUE | 2L, 0L, 3L, 0L, -1L};
        int[] sources = {0, 0, 32, 0, 3, 33};
        int[] tags = {NONE, NONE, NONE, 0, 1, NONE};
        int[] actions = {0, 1, HIDE, 7, 2, SHOW};
        for (int rule = 0; rule < 6; rule++) {
            if (rule != dropped) {
                x.addRule(all[rule], any[rule], sources[rule], tags[rule], actions[rule]);
            }
        }
        return x;
    }

    private static void ruleDropped() {
        promise("18 dropRule, as if the rule had never been");
        for (int rule = 0; rule < 6; rule++) {
            int n = rule;
            Reader x = withRulesBut(NONE);
            due("the rule " + n, 5, () -> x.dropRule(n));
            alikeSeen("the rule " + n, withRulesBut(n), x);
        }
        Reader x = withRulesBut(3);
        due("the last one", 4, () -> x.dropRule(4));
        due("no more", INDEX, () -> x.dropRule(4));
        due("the one before it", 3, () -> x.dropRule(3));
        for (int left = 2; left >= 0; left--) {
            int n = left;
            due("the first one, with " + n + " left", n, () -> x.dropRule(0));
        }
        due("none is left", INDEX, () -> x.dropRule(0));
    }

    // ---- rivers

    private static void riverOrder() {
        promise("by the times, and by the numbers where they are the same");
        Reader x = withSources(1);
        x.addRiver(1, NONE);
        x.pass(10);
        int[] told = {5, 6, 5, 4, 6, NONE, 11};
        for (int item = 0; item < told.length; item++) {
            x.fetch(0, item, NONE, apart(item), told[item]);
        }
        int[] order = {6, 5, 4, 1, 2, 0, 3};
        for (int rank = 0; rank < order.length; rank++) {
            int k = rank;
            due("rank " + k, order[k], () -> x.riverAt(0, k));
            due("rank " + k + " anew", order[k], () -> x.riverAtAnew(0, k));
            due("of the item " + order[k], k, () -> x.rankOf(0, order[k]));
        }
        due("sound", true, x::isSound);
        x.pass(1);
        x.fetch(0, 7, NONE, apart(7), 10);
        due("told as an older one's, behind those of its minute by its number", 7, () -> x.riverAt(0, 0));
        x.fetch(0, 8, NONE, apart(8), 11);
        due("one minute later", 8, () -> x.riverAt(0, 0));
        x.fetch(0, 9, NONE, apart(9), 0);
        due("the earliest", 9, () -> x.riverAt(0, 9));
        due("the earliest anew", 9, () -> x.riverAtAnew(0, 9));
    }

    private static void riverEachItemOnce() {
        promise("each item once");
        Reader x = withSources(6);
        for (int source = 0; source < 6; source++) {
            x.fetch(source, 1, 1, 1L, NONE);
        }
        x.addRiver(63, NONE);
        due("told by six", 63, () -> x.sourcesOf(0));
        due("shown once", 1, () -> x.riverSize(0));
        due("no second rank", ELEMENT, () -> x.riverAt(0, 1));
        due("no second rank anew", ELEMENT, () -> x.riverAtAnew(0, 1));
        due("counted once", 1, () -> x.unread(0));
    }

    // ---- marks

    /** Version 0, then 1 and 2, of which 1 is major; a device for each number of versions known, from 1 on. */
    private static Reader withThreeVersions() {
        Reader x = withSources(1);
        x.addRiver(1, NONE);
        x.fetch(0, 1, NONE, 0b11L, NONE);
        x.addDevice();
        x.fetch(0, 1, NONE, 0b111L << 40, NONE);
        x.addDevice();
        x.fetch(0, 1, NONE, 0b11L << 40, NONE);
        x.addDevice();
        return x;
    }

    private static void readAtTheMajorVersion() {
        promise("a version that is not less than the latest major one, for the reader");
        boolean[] want = {false, true, true};
        for (int device = 0; device < 3; device++) {
            int d = device;
            Reader x = withThreeVersions();
            due("latest major", 1, () -> x.latestMajor(0));
            x.mark(d, 0, true);
            due("sync of version " + d, want[d] ? 1 : 0, () -> x.sync(d));
            due("read by version " + d, want[d], () -> x.isRead(0));
            due("unread by version " + d, want[d] ? 0 : 1, () -> x.unread(0));
            due("share by version " + d, want[d] ? 1.0f : 0.0f, () -> x.readShare(0));
            due("next by version " + d, want[d] ? (Object) ELEMENT : (Object) 0, () -> x.nextUnread(0));
            x.fetch(0, 1, NONE, 0b111L << 40, NONE);
            due("one that is not major more", want[d], () -> x.isRead(0));
            x.fetch(0, 1, NONE, 1L, NONE);
            due("a major one more", false, () -> x.isRead(0));
        }
    }

    private static void readAtTheMajorVersionKnown() {
        promise("a version that is not less than the latest major one that the device knows");
        Reader x = withThreeVersions();
        for (int device = 0; device < 3; device++) {
            int d = device;
            due("not before, on " + d, false, () -> x.mark(d, 0, true));
            due("read on " + d, true, () -> x.isReadOn(d, 0));
        }
        x.fetch(0, 1, NONE, 1L, NONE);
        for (int device = 0; device < 3; device++) {
            int d = device;
            due("a major one that it does not know, on " + d, true, () -> x.isReadOn(d, 0));
        }
        due("sync", 0, () -> x.sync(1));
        due("it knows it now", false, () -> x.isReadOn(1, 0));
        due("the others do not", true, () -> x.isReadOn(2, 0));
        due("nor for their marks", true, () -> x.mark(2, 0, true));
    }

    private static void knownWhenAddedOrSynced() {
        promise("what a device knows");
        Reader x = withThreeVersions();
        for (int device = 0; device < 3; device++) {
            int d = device;
            due("versions, as it was added " + d, d + 1, () -> x.knownVersions(d, 0));
        }
        x.fetch(0, 2, NONE, 1L << 20, NONE);
        due("an item behind it", 0, () -> x.knownVersions(2, 1));
        refused("no mark of it", x, STATE, () -> x.mark(2, 1, true));
        refused("no reading of it", x, STATE, () -> x.isReadOn(2, 1));
        due("not marked by a river", 1, () -> x.markRiver(2, 0));
        due("the other item alone", true, () -> x.isReadOn(2, 0));
        due("synced", 1, () -> x.sync(2));
        due("known", 1, () -> x.knownVersions(2, 1));
        due("the mark of it", false, () -> x.mark(2, 1, true));
        due("not known to another", 0, () -> x.knownVersions(0, 1));
        x.addDevice();
        due("known to a new one", 1, () -> x.knownVersions(3, 1));
        due("with the versions", 3, () -> x.knownVersions(3, 0));
        due("and the reader's marks", true, () -> x.isReadOn(3, 0));
        due("but no device's", false, () -> x.isReadOn(3, 1));
    }

    private static void markedAtTheVersionKnown() {
        promise("a mark has the latest version that the device knows");
        Reader x = withThreeVersions();
        x.mark(0, 0, true);
        due("the version 0 is too low for the reader", 0, () -> x.sync(0));
        due("not read", false, () -> x.isRead(0));
        due("nor on the device, which knows all now", false, () -> x.isReadOn(0, 0));
        due("marked once more", false, () -> x.mark(0, 0, true));
        due("by the version 2", 1, () -> x.sync(0));
        Reader y = withThreeVersions();
        due("by a river", 1, () -> y.markRiver(1, 0));
        due("the version 1 is enough", 1, () -> y.sync(1));
        due("by a river, the version 0", 1, () -> y.markRiver(0, 0));
        due("loses against the version 1", 0, () -> y.sync(0));
        due("read", true, () -> y.isRead(0));
    }

    // ---- merging

    /** An item with one version, which two devices know; the device 0 is there to give the reader its mark. */
    private static Reader withTwoDevices() {
        Reader x = withSources(1);
        x.fetch(0, 1, NONE, 1L, NONE);
        x.addDevice();
        x.addDevice();
        return x;
    }

    private static Reader withAllDevicesAndItems() {
        Reader x = withSources(1);
        for (int item = 0; item < 30; item++) {
            plainItem(x, 0, item);
        }
        for (int device = 0; device < 4; device++) {
            x.addDevice();
        }
        return x;
    }

    private static void merged(String what, boolean want, boolean readers, boolean devices, int later) {
        merged(what + ", first", want, readers, devices, later, 1, 0);
        merged(what + ", last", want, readers, devices, later, 3, 29);
    }

    /** The reader's mark, then the device's mark so many minutes later, or earlier, and which of both is there then. */
    private static void merged(String what, boolean want, boolean readers, boolean devices, int later, int device, int item) {
        Reader x = withAllDevicesAndItems();
        if (later < 0) {
            x.mark(device, item, devices);
            x.pass(-later);
        }
        x.mark(0, item, readers);
        x.sync(0);
        if (later > 0) {
            x.pass(later);
        }
        if (later >= 0) {
            x.mark(device, item, devices);
        }
        due(what + ", sync", want == readers ? 0 : 1, () -> x.sync(device));
        due(what + ", reader", want, () -> x.isRead(item));
        due(what + ", device", want, () -> x.isReadOn(device, item));
    }

    private static void mergeByMinute() {
        promise("the one with the later minute");
        merged("read, then unread one minute later", false, true, false, 1);
        merged("unread, then read one minute later", true, false, true, 1);
        merged("the device's unread one minute earlier", true, true, false, -1);
        merged("the device's read one minute earlier", false, false, true, -1);
        merged("read, then unread much later", false, true, false, 2000);
        merged("the device's read much earlier", false, false, true, -2000);
        merged("both read", true, true, true, 1);
        merged("both unread", false, false, false, -1);
    }

    private static void mergeByKind() {
        promise("with the same minute, read against unread");
        merged("the reader's read", true, true, false, 0);
        merged("the device's read", true, false, true, 0);
        merged("both read", true, true, true, 0);
        merged("both unread", false, false, false, 0);
        mergeByKindBeforeVersion();
    }

    /** Two versions, of which the second one is not major; a device for each number of versions known. */
    private static Reader withALikeVersion() {
        Reader x = withSources(1);
        x.fetch(0, 1, NONE, first(3), NONE);
        x.addDevice();
        x.fetch(0, 1, NONE, first(5), NONE);
        x.addDevice();
        return x;
    }

    private static void mergeByKindBeforeVersion() {
        Reader x = withALikeVersion();
        x.mark(0, 0, true);
        x.sync(0);
        x.mark(1, 0, false);
        due("the reader's read of a lower version", 0, () -> x.sync(1));
        due("it is read", true, () -> x.isRead(0));
        due("on the device too", true, () -> x.isReadOn(1, 0));
        Reader y = withALikeVersion();
        y.mark(1, 0, false);
        y.sync(1);
        y.mark(0, 0, true);
        due("the device's read of a lower version", 1, () -> y.sync(0));
        due("it is read", true, () -> y.isRead(0));
        Reader z = withALikeVersion();
        z.mark(1, 0, true);
        z.sync(1);
        z.mark(0, 0, false);
        due("the reader's read of a higher version", 0, () -> z.sync(0));
        due("it is read", true, () -> z.isRead(0));
        Reader w = withALikeVersion();
        w.mark(1, 0, true);
        w.sync(1);
        w.pass(1);
        w.mark(0, 0, false);
        due("a later unread of a lower version", 1, () -> w.sync(0));
        due("it is not read", false, () -> w.isRead(0));
    }

    private static void mergeByVersion() {
        promise("otherwise the version that is not less");
        Reader x = withThreeVersions();
        x.mark(1, 0, true);
        x.sync(1);
        x.mark(0, 0, true);
        due("the device's 0 against 1", 0, () -> x.sync(0));
        due("read for the reader by 1", true, () -> x.isRead(0));
        due("read for the device by 1", true, () -> x.isReadOn(0, 0));
        Reader y = withThreeVersions();
        y.mark(0, 0, true);
        due("0 alone", 0, () -> y.sync(0));
        y.mark(1, 0, true);
        due("the device's 1 against 0", 1, () -> y.sync(1));
        due("read by 1", true, () -> y.isRead(0));
        Reader z = withThreeVersions();
        z.mark(2, 0, true);
        z.sync(2);
        due("equal, again", 0, () -> z.sync(2));
        due("read as before", true, () -> z.isRead(0));
        Reader w = withThreeVersions();
        w.mark(2, 0, true);
        w.sync(2);
        w.pass(1);
        w.mark(0, 0, true);
        due("a later minute goes before the version", 1, () -> w.sync(0));
        due("so that it is read no more", false, () -> w.isRead(0));
    }

    private static void mergeGivesBothTheMark() {
        promise("both have the mark that wins");
        Reader x = withTwoDevices();
        x.mark(0, 0, true);
        x.pass(1);
        x.mark(1, 0, false);
        x.sync(1);
        x.pass(1);
        due("the reader's unread wins", 0, () -> x.sync(0));
        due("the device has it", false, () -> x.isReadOn(0, 0));
        x.addDevice();
        x.mark(2, 0, true);
        due("a later one wins", 1, () -> x.sync(2));
        due("with its minute, against the earlier one of the first", 0, () -> x.sync(0));
        due("of which the reader's is kept", true, () -> x.isRead(0));
        due("and the device gets it", true, () -> x.isReadOn(0, 0));
    }

    private static void mergeCountsBothWays() {
        promise("read now and not before, or the other way round");
        Reader x = withSources(1);
        for (int item = 0; item < 5; item++) {
            plainItem(x, 0, item);
        }
        x.addDevice();
        x.mark(0, 0, true);
        x.mark(0, 1, true);
        due("two are read", 2, () -> x.sync(0));
        x.pass(1);
        x.mark(0, 0, false);
        x.mark(0, 1, true);
        x.mark(0, 2, true);
        x.mark(0, 3, false);
        due("one is read no more, one as before, one now, one never, one without a mark", 2, () -> x.sync(0));
        boolean[] want = {false, true, true, false, false};
        for (int item = 0; item < 5; item++) {
            int i = item;
            due("item " + i, want[i], () -> x.isRead(i));
        }
    }

    private static void mergeAgain() {
        promise("a sync of what is synced");
        Reader x = withTwoDevices();
        x.mark(0, 0, true);
        due("once", 1, () -> x.sync(0));
        due("twice", 0, () -> x.sync(0));
        x.pass(2000);
        due("later", 0, () -> x.sync(0));
        x.mark(1, 0, false);
        due("the device's mark has its minute, not that of the sync", 1, () -> x.sync(1));
    }

    private static void mergeWhatIsNotKnown() {
        promise("items that the device does not know");
        Reader x = withSources(1);
        x.addDevice();
        x.fetch(0, 1, NONE, 1L, NONE);
        x.fetch(0, 2, NONE, 2L, NONE);
        x.fetch(0, 3, NONE, 4L, NONE);
        x.addDevice();
        x.mark(1, 0, true);
        x.mark(1, 1, false);
        due("the reader gets two marks", 1, () -> x.sync(1));
        due("nothing turns", 0, () -> x.sync(0));
        due("read on the device", true, () -> x.isReadOn(0, 0));
        due("unread on the device", false, () -> x.isReadOn(0, 1));
        due("without a mark on the device", false, () -> x.isReadOn(0, 2));
        due("known", 1, () -> x.knownVersions(0, 2));
    }

    private static void markInPlaceOfTheOldOne() {
        promise("31 mark, in place of the mark that the device has");
        Reader x = withTwoDevices();
        x.mark(0, 0, true);
        x.pass(1);
        due("read before", true, () -> x.mark(0, 0, true));
        x.mark(1, 0, false);
        x.sync(0);
        due("it has the new minute, in which read wins", 0, () -> x.sync(1));
        Reader y = withTwoDevices();
        y.mark(0, 0, true);
        y.mark(0, 0, false);
        due("unread in the minute of read", 0, () -> y.sync(0));
        due("the old one is not there to win", false, () -> y.isReadOn(0, 0));
        Reader z = withTwoDevices();
        z.addRiver(1, NONE);
        z.mark(0, 0, false);
        z.pass(1);
        due("by a river", 1, () -> z.markRiver(0, 0));
        z.mark(1, 0, false);
        z.sync(1);
        due("it has the new minute too", 1, () -> z.sync(0));
    }

    private static void markOfTheReaderOnANewDevice() {
        promise("30 addDevice, which has the reader's marks");
        Reader x = withTwoDevices();
        x.mark(0, 0, true);
        x.sync(0);
        x.pass(1);
        x.mark(0, 0, false);
        x.pass(1);
        due("a new device", 2, x::addDevice);
        due("it has the reader's mark", true, () -> x.isReadOn(2, 0));
        x.sync(0);
        due("with its minute, which is not that of the adding", 0, () -> x.sync(2));
        due("so that it loses", false, () -> x.isReadOn(2, 0));
    }

    // ---- the ends of the sets

    private static void lastWord() {
        promise("the word 63");
        Reader x = withSources(1);
        due("a title of it alone", 0, () -> x.fetch(0, 1, NONE, Long.MIN_VALUE, NONE));
        due("is found by likeness", 0, () -> x.fetch(0, NONE, NONE, Long.MIN_VALUE, NONE));
        due("is not like all the others", 1, () -> x.fetch(0, 2, NONE, Long.MAX_VALUE, NONE));
        due("title", Long.MIN_VALUE, () -> x.title(0, 0));
        x.addRule(Long.MIN_VALUE, 0L, 0, NONE, 1);
        x.addRule(0L, Long.MIN_VALUE, 0, NONE, 2);
        x.addRule(Long.MAX_VALUE, 0L, 0, NONE, 3);
        x.addRule(0L, Long.MAX_VALUE, 0, NONE, 4);
        due("all and any of it", 0b00110, () -> x.tagsOf(0));
        due("all and any of the others", 0b11000, () -> x.tagsOf(1));
        due("likeness to all words", 1, () -> x.likeness(Long.MIN_VALUE, -1L));
        due("likeness to all others", 0, () -> x.likeness(Long.MIN_VALUE, Long.MAX_VALUE));
        due("likeness to itself and one", 50, () -> x.likeness(Long.MIN_VALUE, Long.MIN_VALUE | 1L));
        due("likeness to itself and 62", 50, () -> x.likeness(Long.MIN_VALUE, 3L << 62));
    }

    private static void lastTag() {
        promise("the tag 7");
        Reader x = withSources(1);
        x.fetch(0, 1, NONE, 1L, NONE);
        x.addRiver(1, 7);
        due("not had", 0, () -> x.riverSize(0));
        x.addRule(0L, 0L, 0, NONE, 7);
        due("had", 128, () -> x.tagsOf(0));
        due("it does not hide", false, () -> x.isHidden(0));
        due("shown", 1, () -> x.riverSize(0));
        x.addRule(0L, 0L, 0, 7, 0);
        due("needed by a rule", 129, () -> x.tagsOf(0));
        for (int tag = 1; tag < 5; tag++) {
            x.addRule(0L, 0L, 0, tag - 1, tag);
        }
        due("seven tags would be more than the rules", 0b10011111, () -> x.tagsOf(0));
        x.dropRule(0);
        due("none without the first", 0, () -> x.tagsOf(0));
    }

    private static void lastSource() {
        promise("the source 5");
        Reader x = withSources(6);
        due("tells", 0, () -> x.fetch(5, 999, 999, 1L, NONE));
        due("its bit", 32, () -> x.sourcesOf(0));
        due("its last pair", 0, () -> x.withIdentifier(5, 999));
        x.addRiver(32, NONE);
        x.addRiver(31, NONE);
        due("in its river", 1, () -> x.riverSize(0));
        due("not in that of the others", 0, () -> x.riverSize(1));
        x.addRule(0L, 0L, 32, NONE, 6);
        x.addRule(0L, 0L, 31, NONE, 5);
        due("its rule, not that of the others", 64, () -> x.tagsOf(0));
        due("the others tell it too", 0, () -> x.fetch(0, NONE, 999, 1L, NONE));
        due("both bits", 33, () -> x.sourcesOf(0));
        due("both rules", 96, () -> x.tagsOf(0));
        due("both rivers", 1, () -> x.riverSize(1));
    }

    private static void lastOfEverything() {
        promise("the last item, rule, river, device, rank and version");
        Reader x = withSources(6);
        for (int item = 0; item < 30; item++) {
            x.fetch(5, 999 - item, 970 + item, apart(item), NONE);
        }
        for (int i = 0; i < 4; i++) {
            x.addRiver(32, NONE);
            x.addDevice();
        }
        for (int rule = 0; rule < 6; rule++) {
            x.addRule(0L, 3L << 58, 0, NONE, rule == 5 ? 7 : HIDE);
        }
        due("the link 999", 29, () -> x.withLink(999));
        due("the pair of 999", 0, () -> x.withIdentifier(5, 999));
        due("the rule 5", 1, () -> x.matches(5));
        due("the item 29, tags", 128, () -> x.tagsOf(29));
        due("the item 29, hidden", true, () -> x.isHidden(29));
        due("the item 28, tags", 0, () -> x.tagsOf(28));
        due("the river 3, its last rank", 0, () -> x.riverAt(3, 28));
        due("the river 3, behind it", ELEMENT, () -> x.riverAt(3, 29));
        due("the river 3, without the item 29", ELEMENT, () -> x.rankOf(3, 29));
        due("the device 3, a mark of the item 29", false, () -> x.mark(3, 29, true));
        due("the device 2 has none", false, () -> x.isReadOn(2, 29));
        due("the item 28 has none", false, () -> x.isReadOn(3, 28));
        due("synced", 1, () -> x.sync(3));
        due("read", true, () -> x.isRead(29));
        due("the item 0 is not", false, () -> x.isRead(0));
        due("the device 0 gets it", 0, () -> x.sync(0));
        due("read on it", true, () -> x.isReadOn(0, 29));
        due("the rest of the river", 29, () -> x.markRiver(3, 3));
        due("synced once more", 29, () -> x.sync(3));
        due("all read", 1.0f, () -> x.readShare(3));
        for (int version = 1; version < 9; version++) {
            x.fetch(5, 970, NONE, 1L << version, NONE);
        }
        due("the last version", 1L << 8, () -> x.title(29, 8));
        due("the first one kept", 1L << 5, () -> x.title(29, 5));
        due("the last one not kept", ELEMENT, () -> x.title(29, 4));
        due("shown now", 29, () -> x.riverAt(3, 0));
        due("and unread", 29, () -> x.nextUnread(3));
        due("sound", true, x::isSound);
    }
}
