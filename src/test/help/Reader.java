import java.util.ArrayList;
import java.util.List;

/**
 * A Feedloom that remembers its calls, so that the same object can be made once more, and that is never asked more
 * than the document allows: what an object answers behind its 512th call is free.
 */
final class Reader {
    private static final int MOST_CALLS = 512;

    private final Feedloom feedloom = new Feedloom();
    private final List<Call<?>> calls = new ArrayList<>();

    private interface Call<T> {
        T on(Feedloom x);
    }

    private <T> T ask(Call<T> call) {
        if (calls.size() >= MOST_CALLS) {
            throw new AssertionError("the test asks one object more than " + MOST_CALLS + " times");
        }
        calls.add(call);
        return call.on(feedloom);
    }

    /** Makes a new object and gives it the same calls, the refused ones too. */
    Reader anew() {
        Reader copy = new Reader();
        for (Call<?> call : calls) {
            try {
                copy.ask(call);
            } catch (RuntimeException e) {
                // It was refused the first time as well, or the test has told of it there.
            }
        }
        return copy;
    }

    // ---- time and settings

    int pass(int minutes) {
        return ask(x -> x.pass(minutes));
    }

    int now() {
        return ask(x -> x.now());
    }

    int setThreshold(int percent) {
        return ask(x -> x.setThreshold(percent));
    }

    int setWindow(int minutes) {
        return ask(x -> x.setWindow(minutes));
    }

    int likeness(long title, long other) {
        return ask(x -> x.likeness(title, other));
    }

    // ---- sources and items

    int addSource() {
        return ask(x -> x.addSource());
    }

    int fetch(int source, int identifier, int link, long title, int told) {
        return ask(x -> x.fetch(source, identifier, link, title, told));
    }

    int items() {
        return ask(x -> x.items());
    }

    int withIdentifier(int source, int identifier) {
        return ask(x -> x.withIdentifier(source, identifier));
    }

    int withLink(int link) {
        return ask(x -> x.withLink(link));
    }

    long title(int item, int version) {
        return ask(x -> x.title(item, version));
    }

    int versions(int item) {
        return ask(x -> x.versions(item));
    }

    int latestMajor(int item) {
        return ask(x -> x.latestMajor(item));
    }

    int sourcesOf(int item) {
        return ask(x -> x.sourcesOf(item));
    }

    int timeOf(int item) {
        return ask(x -> x.timeOf(item));
    }

    // ---- rules

    int addRule(long all, long any, int sources, int tag, int action) {
        return ask(x -> x.addRule(all, any, sources, tag, action));
    }

    int dropRule(int rule) {
        return ask(x -> x.dropRule(rule));
    }

    int tagsOf(int item) {
        return ask(x -> x.tagsOf(item));
    }

    boolean isHidden(int item) {
        return ask(x -> x.isHidden(item));
    }

    int matches(int rule) {
        return ask(x -> x.matches(rule));
    }

    // ---- rivers

    int addRiver(int sources, int tag) {
        return ask(x -> x.addRiver(sources, tag));
    }

    int riverSize(int river) {
        return ask(x -> x.riverSize(river));
    }

    int riverAt(int river, int rank) {
        return ask(x -> x.riverAt(river, rank));
    }

    int riverAtAnew(int river, int rank) {
        return ask(x -> x.riverAtAnew(river, rank));
    }

    int rankOf(int river, int item) {
        return ask(x -> x.rankOf(river, item));
    }

    int unread(int river) {
        return ask(x -> x.unread(river));
    }

    int nextUnread(int river) {
        return ask(x -> x.nextUnread(river));
    }

    float readShare(int river) {
        return ask(x -> x.readShare(river));
    }

    // ---- devices and marks

    int addDevice() {
        return ask(x -> x.addDevice());
    }

    boolean mark(int device, int item, boolean isRead) {
        return ask(x -> x.mark(device, item, isRead));
    }

    int markRiver(int device, int river) {
        return ask(x -> x.markRiver(device, river));
    }

    int sync(int device) {
        return ask(x -> x.sync(device));
    }

    boolean isRead(int item) {
        return ask(x -> x.isRead(item));
    }

    boolean isReadOn(int device, int item) {
        return ask(x -> x.isReadOn(device, item));
    }

    int knownVersions(int device, int item) {
        return ask(x -> x.knownVersions(device, item));
    }

    // ---- sums

    double meanVersions() {
        return ask(x -> x.meanVersions());
    }

    boolean isSound() {
        return ask(x -> x.isSound());
    }
}
