import java.util.ArrayList;
import java.util.HashMap;
import java.util.HashSet;
import java.util.List;
import java.util.Map;
import java.util.NoSuchElementException;
import java.util.Objects;
import java.util.Random;
import java.util.Set;

/**
 * Runs of calls drawn from fixed seeds, answered by Feedloom and by a model that is written again from the
 * document, with sets and lists and without any thought of speed; every answer and every exception must agree.
 */
public final class FeedloomModel {
    private static final int RUNS = 600;
    private static final int CALLS = 512;

    public static void main(String[] args) {
        int refused = 0;
        Map<String, int[]> heard = new HashMap<>();
        for (int run = 0; run < RUNS; run++) {
            Random random = new Random(run);
            Feedloom real = new Feedloom();
            Model model = new Model();
            List<String> told = new ArrayList<>();
            for (int call = 0; call < CALLS; call++) {
                Call next = Call.draw(random, model, run % 5);
                Object want = answer(() -> next.on(model));
                Object got = answer(() -> next.on(real));
                told.add(next + " -> " + got);
                int[] counts = heard.computeIfAbsent(next.name, name -> new int[2]);
                counts[want instanceof Class ? 1 : 0]++;
                if (!Objects.equals(want, got)) {
                    System.out.println("run " + run + ": " + told + "\nbut due is " + want);
                    System.exit(1);
                }
            }
        }
        for (String name : Call.NAMES) {
            int[] counts = heard.getOrDefault(name, new int[2]);
            if (counts[0] < 200) {
                System.out.println(name + " answered only " + counts[0] + " times");
                refused++;
            }
        }
        if (refused != 0) {
            System.exit(1);
        }
        System.out.println(RUNS + " runs of " + CALLS + " calls agree");
    }

    private interface Asked {
        Object get();
    }

    private static Object answer(Asked call) {
        try {
            return call.get();
        } catch (RuntimeException e) {
            return e.getClass();
        }
    }

    private static final class Call {
        static final String[] NAMES = {
            "pass", "now", "setThreshold", "setWindow", "likeness", "addSource", "fetch", "items", "withIdentifier",
            "withLink", "title", "versions", "latestMajor", "sourcesOf", "timeOf", "addRule", "dropRule", "tagsOf",
            "isHidden", "matches", "addRiver", "riverSize", "riverAt", "riverAtAnew", "rankOf", "unread", "nextUnread",
            "readShare", "addDevice", "mark", "markRiver", "sync", "isRead", "isReadOn", "knownVersions",
            "meanVersions", "isSound",
        };

        String name;
        int[] n = new int[4];
        long[] words = new long[2];

        @Override
        public String toString() {
            return name + "(" + n[0] + ", " + n[1] + ", " + n[2] + ", " + n[3] + "; " + words[0] + ", " + words[1] + ")";
        }

        static Call draw(Random random, Model model, int kind) {
            Call call = new Call();
            int dice = random.nextInt(100);
            call.name = NAMES[random.nextInt(NAMES.length)];
            if (dice < 30) {
                call.name = "fetch";
            } else if (dice < 40) {
                call.name = random.nextBoolean() ? "mark" : "sync";
            } else if (dice < 43) {
                call.name = "pass";
            }
            call.fill(random, model, kind);
            return call;
        }

        private void fill(Random random, Model model, int kind) {
            int items = model.items.size();
            int odd = random.nextInt(40) == 0 ? 1 : 0;
            int wordCount = kind == 0 ? 64 : kind == 1 ? 12 : 6;
            words[0] = title(random, wordCount);
            words[1] = title(random, wordCount);
            int keys = kind == 3 ? 1000 : 30;
            switch (name) {
                case "pass": n[0] = odd == 1 ? edge(random, 1, 2000) : 1 + random.nextInt(kind == 4 ? 2000 : 40); break;
                case "setThreshold": n[0] = odd == 1 ? edge(random, 1, 100) : 1 + random.nextInt(100); break;
                case "setWindow": n[0] = odd == 1 ? edge(random, 0, 1440) : random.nextInt(1441); break;
                case "fetch":
                    n[0] = random.nextInt(model.sources + 1 + odd) - odd;
                    n[1] = random.nextInt(3) == 0 ? -1 : random.nextInt(keys);
                    n[2] = random.nextInt(2) == 0 ? -1 : random.nextInt(keys);
                    n[3] = random.nextInt(2) == 0 ? -1 : Math.max(0, model.minute + random.nextInt(3000) - 2000);
                    if (odd == 1) {
                        n[1 + random.nextInt(3)] = edge(random, -1, random.nextBoolean() ? 999 : 99999);
                    }
                    break;
                case "withIdentifier":
                    n[0] = random.nextInt(8) - 1;
                    n[1] = random.nextInt(31) - 1;
                    break;
                case "withLink": n[0] = odd == 1 ? edge(random, 0, 999) : random.nextInt(31) - 1; break;
                case "addRule":
                    words[0] = random.nextInt(2) == 0 ? 0 : 1L << random.nextInt(wordCount);
                    words[1] = random.nextInt(2) == 0 ? 0 : words[1];
                    n[0] = random.nextInt(2) == 0 ? 0 : random.nextInt(64 + odd) - odd;
                    n[1] = random.nextInt(2) == 0 ? -1 : random.nextInt(8 + odd) - 2 * odd;
                    n[2] = random.nextInt(10 + odd) - odd;
                    break;
                case "dropRule": n[0] = random.nextInt(12) - 1; break;
                case "addRiver":
                    n[0] = random.nextInt(65 + odd) - odd;
                    n[1] = random.nextInt(2) == 0 ? -1 : random.nextInt(8 + odd) - 2 * odd;
                    break;
                case "title": n[0] = near(random, items); n[1] = random.nextInt(10) - 1; break;
                case "mark": case "isReadOn": case "knownVersions":
                    n[0] = near(random, model.devices.size());
                    n[1] = near(random, items);
                    n[2] = random.nextInt(3);
                    break;
                case "rankOf": n[0] = near(random, model.rivers.size()); n[1] = near(random, items); break;
                case "riverAt": case "riverAtAnew":
                    n[0] = near(random, model.rivers.size());
                    n[1] = random.nextInt(items + 2) - 1;
                    break;
                case "markRiver": n[0] = near(random, model.devices.size()); n[1] = near(random, model.rivers.size()); break;
                case "sync": n[0] = near(random, model.devices.size()); break;
                case "matches": n[0] = near(random, model.rules.size()); break;
                case "riverSize": case "unread": case "nextUnread": case "readShare":
                    n[0] = near(random, model.rivers.size());
                    break;
                default: n[0] = near(random, items); break;
            }
        }

        private static int near(Random random, int count) {
            return random.nextInt(30) == 0 ? edge(random, 0, count - 1) : count == 0 ? 0 : random.nextInt(count);
        }

        private static int edge(Random random, int least, int greatest) {
            int[] edges = {least - 1, least, greatest, greatest + 1, Integer.MIN_VALUE, Integer.MAX_VALUE};
            return edges[random.nextInt(edges.length)];
        }

        private static long title(Random random, int wordCount) {
            long title = 0;
            for (int i = random.nextInt(7) - (random.nextInt(20) == 0 ? 2 : 0); i >= 0; i--) {
                title |= 1L << random.nextInt(wordCount);
            }
            return title;
        }

        Object on(Feedloom x) {
            switch (name) {
                case "pass": return x.pass(n[0]);
                case "now": return x.now();
                case "setThreshold": return x.setThreshold(n[0]);
                case "setWindow": return x.setWindow(n[0]);
                case "likeness": return x.likeness(words[0], words[1]);
                case "addSource": return x.addSource();
                case "fetch": return x.fetch(n[0], n[1], n[2], words[0], n[3]);
                case "items": return x.items();
                case "withIdentifier": return x.withIdentifier(n[0], n[1]);
                case "withLink": return x.withLink(n[0]);
                case "title": return x.title(n[0], n[1]);
                case "versions": return x.versions(n[0]);
                case "latestMajor": return x.latestMajor(n[0]);
                case "sourcesOf": return x.sourcesOf(n[0]);
                case "timeOf": return x.timeOf(n[0]);
                case "addRule": return x.addRule(words[0], words[1], n[0], n[1], n[2]);
                case "dropRule": return x.dropRule(n[0]);
                case "tagsOf": return x.tagsOf(n[0]);
                case "isHidden": return x.isHidden(n[0]);
                case "matches": return x.matches(n[0]);
                case "addRiver": return x.addRiver(n[0], n[1]);
                case "riverSize": return x.riverSize(n[0]);
                case "riverAt": return x.riverAt(n[0], n[1]);
                case "riverAtAnew": return x.riverAtAnew(n[0], n[1]);
                case "rankOf": return x.rankOf(n[0], n[1]);
                case "unread": return x.unread(n[0]);
                case "nextUnread": return x.nextUnread(n[0]);
                case "readShare": return x.readShare(n[0]);
                case "addDevice": return x.addDevice();
                case "mark": return x.mark(n[0], n[1], n[2] != 0);
                case "markRiver": return x.markRiver(n[0], n[1]);
                case "sync": return x.sync(n[0]);
                case "isRead": return x.isRead(n[0]);
                case "isReadOn": return x.isReadOn(n[0], n[1]);
                case "knownVersions": return x.knownVersions(n[0], n[1]);
                case "meanVersions": return x.meanVersions();
                case "isSound": return x.isSound();
                default: throw new AssertionError(name);
            }
        }

        Object on(Model m) {
            switch (name) {
                case "pass": return m.pass(n[0]);
                case "now": return m.minute;
                case "setThreshold": return m.setThreshold(n[0]);
                case "setWindow": return m.setWindow(n[0]);
                case "likeness": return m.likeness(words[0], words[1]);
                case "addSource": return m.addSource();
                case "fetch": return m.fetch(n[0], n[1], n[2], words[0], n[3]);
                case "items": return m.items.size();
                case "withIdentifier": return m.having(m.byPair(n[0], n[1]));
                case "withLink": return m.having(m.byLink(n[0]));
                case "title": return m.title(n[0], n[1]);
                case "versions": return m.item(n[0]).titles.size();
                case "latestMajor": return m.item(n[0]).majorAmong(Integer.MAX_VALUE);
                case "sourcesOf": return m.sourcesOf(n[0]);
                case "timeOf": return m.item(n[0]).time;
                case "addRule": return m.addRule(words[0], words[1], n[0], n[1], n[2]);
                case "dropRule": return m.dropRule(n[0]);
                case "tagsOf": return m.tagsOf(n[0]);
                case "isHidden": return m.look(m.item(n[0]), m.rules.size()).hidden;
                case "matches": return m.matches(n[0]);
                case "addRiver": return m.addRiver(n[0], n[1]);
                case "riverSize": return m.flow(n[0]).size();
                case "riverAt": case "riverAtAnew": return m.riverAt(n[0], n[1]);
                case "rankOf": return m.rankOf(n[0], n[1]);
                case "unread": return m.unreadOf(n[0]).size();
                case "nextUnread": return m.nextUnread(n[0]);
                case "readShare": return m.readShare(n[0]);
                case "addDevice": return m.addDevice();
                case "mark": return m.mark(n[0], n[1], n[2] != 0);
                case "markRiver": return m.markRiver(n[0], n[1]);
                case "sync": return m.sync(n[0]);
                case "isRead": m.item(n[0]); return m.isRead(n[0]);
                case "isReadOn": return m.isReadOn(n[0], n[1]);
                case "knownVersions": return m.knownVersions(n[0], n[1]);
                case "meanVersions": return m.meanVersions();
                case "isSound": return true;
                default: throw new AssertionError(name);
            }
        }
    }

    private static final class Item {
        int seen;
        int time;
        Set<Integer> tellers = new HashSet<>();
        Set<List<Integer>> pairs = new HashSet<>();
        Set<Integer> links = new HashSet<>();
        List<Set<Integer>> titles = new ArrayList<>();
        List<Boolean> majors = new ArrayList<>();

        Set<Integer> latest() {
            return titles.get(titles.size() - 1);
        }

        int majorAmong(int count) {
            int found = 0;
            for (int version = 0; version < Math.min(count, majors.size()); version++) {
                if (majors.get(version)) {
                    found = version;
                }
            }
            return found;
        }
    }

    private static final class Rule {
        Set<Integer> all;
        Set<Integer> any;
        Set<Integer> sources;
        int tag;
        int action;
    }

    private static final class Look {
        Set<Integer> tags = new HashSet<>();
        boolean hidden = false;
    }

    private static final class River {
        Set<Integer> sources;
        int tag;
    }

    private static final class Mark {
        final boolean read;
        final int minute;
        final int version;

        Mark(boolean read, int minute, int version) {
            this.read = read;
            this.minute = minute;
            this.version = version;
        }
    }

    private static final class Device {
        Map<Integer, Mark> marks = new HashMap<>();
        Map<Integer, Integer> known = new HashMap<>();
    }

    private static final class Model {
        int minute = 0;
        int threshold = 60;
        int window = 180;
        int sources = 0;
        List<Item> items = new ArrayList<>();
        List<Rule> rules = new ArrayList<>();
        List<River> rivers = new ArrayList<>();
        List<Device> devices = new ArrayList<>();
        Map<Integer, Mark> marks = new HashMap<>();

        static Set<Integer> bits(long number) {
            Set<Integer> set = new HashSet<>();
            for (int k = 0; k < 64; k++) {
                if ((number >>> k & 1) == 1) {
                    set.add(k);
                }
            }
            return set;
        }

        static long number(Set<Integer> set) {
            long number = 0;
            for (int k : set) {
                number += 1L << k;
            }
            return number;
        }

        static void argument(boolean right) {
            if (!right) {
                throw new IllegalArgumentException();
            }
        }

        static void state(boolean right) {
            if (!right) {
                throw new IllegalStateException();
            }
        }

        static <T> T at(List<T> list, int index) {
            if (index < 0 || index >= list.size()) {
                throw new IndexOutOfBoundsException();
            }
            return list.get(index);
        }

        int pass(int minutes) {
            argument(minutes >= 1 && minutes <= 2000);
            state(minute + minutes <= 99999);
            return minute += minutes;
        }

        int setThreshold(int percent) {
            argument(percent >= 1 && percent <= 100);
            int before = threshold;
            threshold = percent;
            return before;
        }

        int setWindow(int minutes) {
            argument(minutes >= 0 && minutes <= 1440);
            int before = window;
            window = minutes;
            return before;
        }

        int likeness(long title, long other) {
            argument(title != 0 && other != 0);
            return likeness(bits(title), bits(other));
        }

        static int likeness(Set<Integer> title, Set<Integer> other) {
            Set<Integer> both = new HashSet<>(title);
            both.retainAll(other);
            Set<Integer> one = new HashSet<>(title);
            one.addAll(other);
            return 100 * both.size() / one.size();
        }

        int addSource() {
            state(sources < 6);
            return sources++;
        }

        int byPair(int source, int identifier) {
            for (int i = 0; i < items.size(); i++) {
                if (identifier != -1 && items.get(i).pairs.contains(List.of(source, identifier))) {
                    return i;
                }
            }
            return -1;
        }

        int byLink(int link) {
            for (int i = 0; i < items.size(); i++) {
                if (link != -1 && items.get(i).links.contains(link)) {
                    return i;
                }
            }
            return -1;
        }

        int byLikeness(Set<Integer> title) {
            for (int percent = 100; percent >= threshold; percent--) {
                for (int i = 0; i < items.size(); i++) {
                    Item item = items.get(i);
                    if (minute - item.seen <= window && likeness(item.latest(), title) == percent) {
                        return i;
                    }
                }
            }
            return -1;
        }

        int having(int item) {
            if (item == -1) {
                throw new NoSuchElementException();
            }
            return item;
        }

        int fetch(int source, int identifier, int link, long words, int told) {
            if (source < 0 || source >= sources) {
                throw new IndexOutOfBoundsException();
            }
            argument(identifier >= -1 && identifier <= 999 && link >= -1 && link <= 999);
            argument(told >= -1 && told <= 99999 && words != 0);
            Set<Integer> title = bits(words);
            int found = byPair(source, identifier);
            found = found == -1 ? byLink(link) : found;
            found = found == -1 ? byLikeness(title) : found;
            Item item;
            if (found == -1) {
                state(items.size() < 30);
                item = new Item();
                item.seen = minute;
                item.time = told != -1 && told <= minute && told >= minute - 1440 ? told : minute;
                item.titles.add(title);
                item.majors.add(true);
            } else {
                item = items.get(found);
                if (!item.latest().equals(title)) {
                    item.majors.add(likeness(item.latest(), title) < threshold);
                    item.titles.add(title);
                }
            }
            item.tellers.add(source);
            if (identifier != -1 && byPair(source, identifier) == -1) {
                item.pairs.add(List.of(source, identifier));
            }
            if (link != -1 && byLink(link) == -1) {
                item.links.add(link);
            }
            if (found == -1) {
                items.add(item);
                return items.size() - 1;
            }
            return found;
        }

        Item item(int number) {
            return at(items, number);
        }

        long title(int number, int version) {
            Item item = item(number);
            if (version < 0 || version >= item.titles.size() || item.titles.size() - version > 4) {
                throw new NoSuchElementException();
            }
            return number(item.titles.get(version));
        }

        int sourcesOf(int number) {
            return (int) number(item(number).tellers);
        }

        int addRule(long all, long any, int from, int tag, int action) {
            argument(from >= 0 && from <= 63 && tag >= -1 && tag <= 7 && action >= 0 && action <= 9);
            state(rules.size() < 6);
            Rule rule = new Rule();
            rule.all = bits(all);
            rule.any = bits(any);
            rule.sources = bits(from);
            rule.tag = tag;
            rule.action = action;
            rules.add(rule);
            return rules.size() - 1;
        }

        int dropRule(int rule) {
            at(rules, rule);
            rules.remove(rule);
            return rules.size();
        }

        static boolean meet(Set<Integer> set, Set<Integer> other) {
            return set.stream().anyMatch(other::contains);
        }

        boolean holds(Rule rule, Item item, Look look) {
            return item.latest().containsAll(rule.all)
                && (rule.any.isEmpty() || meet(rule.any, item.latest()))
                && (rule.sources.isEmpty() || meet(rule.sources, item.tellers))
                && (rule.tag == -1 || look.tags.contains(rule.tag));
        }

        Look look(Item item, int count) {
            Look look = new Look();
            for (Rule rule : rules.subList(0, count)) {
                if (holds(rule, item, look)) {
                    if (rule.action == 8) {
                        look.hidden = true;
                    } else if (rule.action == 9) {
                        look.hidden = false;
                    } else {
                        look.tags.add(rule.action);
                    }
                }
            }
            return look;
        }

        int tagsOf(int number) {
            return (int) number(look(item(number), rules.size()).tags);
        }

        int matches(int number) {
            Rule rule = at(rules, number);
            return (int) items.stream().filter(item -> holds(rule, item, look(item, number))).count();
        }

        int addRiver(int from, int tag) {
            argument(from >= 1 && from <= 63 && tag >= -1 && tag <= 7);
            state(rivers.size() < 4);
            River river = new River();
            river.sources = bits(from);
            river.tag = tag;
            rivers.add(river);
            return rivers.size() - 1;
        }

        List<Integer> flow(int number) {
            River river = at(rivers, number);
            List<Integer> flow = new ArrayList<>();
            for (int i = 0; i < items.size(); i++) {
                Look look = look(items.get(i), rules.size());
                if (!look.hidden && meet(river.sources, items.get(i).tellers)
                        && (river.tag == -1 || look.tags.contains(river.tag))) {
                    flow.add(i);
                }
            }
            flow.sort((a, b) -> items.get(a).time != items.get(b).time
                ? Integer.compare(items.get(b).time, items.get(a).time) : Integer.compare(b, a));
            return flow;
        }

        int riverAt(int river, int rank) {
            List<Integer> flow = flow(river);
            if (rank < 0 || rank >= flow.size()) {
                throw new NoSuchElementException();
            }
            return flow.get(rank);
        }

        int rankOf(int river, int item) {
            List<Integer> flow = flow(river);
            item(item);
            return having(flow.indexOf(item));
        }

        List<Integer> unreadOf(int river) {
            List<Integer> unread = flow(river);
            unread.removeIf(this::isRead);
            return unread;
        }

        int nextUnread(int river) {
            List<Integer> unread = unreadOf(river);
            return having(unread.isEmpty() ? -1 : unread.get(0));
        }

        float readShare(int river) {
            int size = flow(river).size();
            if (size == 0) {
                throw new ArithmeticException();
            }
            return (float) (size - unreadOf(river).size()) / (float) size;
        }

        int addDevice() {
            state(devices.size() < 4);
            Device device = new Device();
            device.marks.putAll(marks);
            learn(device);
            devices.add(device);
            return devices.size() - 1;
        }

        void learn(Device device) {
            for (int i = 0; i < items.size(); i++) {
                device.known.put(i, items.get(i).titles.size());
            }
        }

        static boolean reads(Mark mark, int major) {
            return mark != null && mark.read && mark.version >= major;
        }

        boolean isRead(int item) {
            return reads(marks.get(item), items.get(item).majorAmong(Integer.MAX_VALUE));
        }

        boolean isReadOn(int number, int item) {
            Device device = at(devices, number);
            Item known = item(item);
            state(device.known.containsKey(item));
            return reads(device.marks.get(item), known.majorAmong(device.known.get(item)));
        }

        boolean mark(int number, int item, boolean read) {
            boolean before = isReadOn(number, item);
            Device device = devices.get(number);
            device.marks.put(item, new Mark(read, minute, device.known.get(item) - 1));
            return before;
        }

        int markRiver(int number, int river) {
            Device device = at(devices, number);
            int turned = 0;
            for (int item : flow(river)) {
                if (device.known.containsKey(item) && !mark(number, item, true)) {
                    turned++;
                }
            }
            return turned;
        }

        static Mark winner(Mark mine, Mark theirs) {
            if (mine == null || theirs == null) {
                return mine == null ? theirs : mine;
            }
            if (mine.minute != theirs.minute) {
                return mine.minute > theirs.minute ? mine : theirs;
            }
            if (mine.read != theirs.read) {
                return mine.read ? mine : theirs;
            }
            return mine.version >= theirs.version ? mine : theirs;
        }

        int sync(int number) {
            Device device = at(devices, number);
            List<Boolean> before = new ArrayList<>();
            for (int i = 0; i < items.size(); i++) {
                before.add(isRead(i));
            }
            for (int item : device.known.keySet()) {
                Mark mark = winner(device.marks.get(item), marks.get(item));
                if (mark != null) {
                    device.marks.put(item, mark);
                    marks.put(item, mark);
                }
            }
            for (int i = 0; i < items.size(); i++) {
                if (!device.known.containsKey(i) && marks.containsKey(i)) {
                    device.marks.put(i, marks.get(i));
                }
            }
            learn(device);
            int turned = 0;
            for (int i = 0; i < items.size(); i++) {
                turned += isRead(i) != before.get(i) ? 1 : 0;
            }
            return turned;
        }

        int knownVersions(int number, int item) {
            Device device = at(devices, number);
            item(item);
            return device.known.getOrDefault(item, 0);
        }

        double meanVersions() {
            if (items.isEmpty()) {
                throw new ArithmeticException();
            }
            return (double) items.stream().mapToInt(item -> item.titles.size()).sum() / (double) items.size();
        }
    }
}
