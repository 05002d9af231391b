import java.util.concurrent.Callable;

/**
 * Looks at an object, each at a part of it and each meant for an object of its own, since all of them together ask
 * more than 512 times. The first ask questions alone; the last ones go on with the object, to see what no question
 * shows: settings, room that is left, minutes of marks, minutes at which items were seen.
 */
enum Looks {
    ITEMS {
        @Override
        void write(Reader x, int items, Log log) {
            log.told(x::now);
            log.told(x::meanVersions);
            log.told(x::isSound);
            for (int i = 0; i < items; i++) {
                int item = i;
                log.told(() -> x.versions(item));
                log.told(() -> x.latestMajor(item));
                log.told(() -> x.sourcesOf(item));
                log.told(() -> x.timeOf(item));
                log.told(() -> x.isRead(item));
            }
        }
    },
    TITLES_AND_RULES {
        @Override
        void write(Reader x, int items, Log log) {
            for (int i = 0; i < items; i++) {
                int item = i;
                int latest = x.versions(i) - 1;
                for (int version = latest; version >= 0 && version >= latest - 4; version--) {
                    int v = version;
                    log.told(() -> x.title(item, v));
                }
                log.told(() -> x.tagsOf(item));
                log.told(() -> x.isHidden(item));
            }
            for (int rule = 0; rule < 7; rule++) {
                int n = rule;
                log.told(() -> x.matches(n));
            }
        }
    },
    RIVERS {
        @Override
        void write(Reader x, int items, Log log) {
            for (int river = 0; river < 5; river++) {
                int n = river;
                log.told(() -> x.riverSize(n));
                log.told(() -> x.unread(n));
                log.told(() -> x.nextUnread(n));
                log.told(() -> x.readShare(n));
                for (int rank = 0; rank < items; rank++) {
                    int k = rank;
                    log.told(() -> x.riverAt(n, k));
                }
            }
        }
    },
    KEYS {
        @Override
        void write(Reader x, int items, Log log) {
            for (int key : new int[] {0, 1, 2, 3, 4, 5, 6, 7, 50, 100, 998, 999}) {
                log.told(() -> x.withLink(key));
                for (int source = 0; source < 6; source++) {
                    int s = source;
                    log.told(() -> x.withIdentifier(s, key));
                }
            }
        }
    },
    DEVICES {
        @Override
        void write(Reader x, int items, Log log) {
            for (int device = 0; device < 4; device++) {
                int d = device;
                for (int i = 0; i < items; i++) {
                    int item = i;
                    log.told(() -> x.knownVersions(d, item));
                    log.told(() -> x.isReadOn(d, item));
                }
            }
        }
    },
    ROOM {
        @Override
        void write(Reader x, int items, Log log) {
            log.told(() -> x.setThreshold(1));
            log.told(() -> x.setWindow(0));
            for (int i = 0; i < 7; i++) {
                log.told(x::addSource);
                log.told(() -> x.addRule(0L, 0L, 0, Feedloom.NONE, 7));
                log.told(() -> x.addRiver(63, Feedloom.NONE));
                log.told(x::addDevice);
            }
            for (int i = items; i < 31; i++) {
                int number = i;
                log.told(() -> x.fetch(0, 200 + number, Feedloom.NONE, 1L << number, Feedloom.NONE));
                log.told(() -> x.pass(2000));
            }
        }
    },
    SYNCS {
        @Override
        void write(Reader x, int items, Log log) {
            for (int device = 0; device < 4; device++) {
                int d = device;
                log.told(() -> x.sync(d));
                for (int i = 0; i < items; i++) {
                    int item = i;
                    log.told(() -> x.isRead(item));
                }
            }
        }
    },
    FETCHES {
        @Override
        void write(Reader x, int items, Log log) {
            for (int i = 0; i < items; i++) {
                long title = x.title(i, x.versions(i) - 1);
                log.told(() -> x.fetch(0, Feedloom.NONE, Feedloom.NONE, title, Feedloom.NONE));
            }
            log.told(() -> x.pass(180));
            log.told(() -> x.fetch(0, Feedloom.NONE, Feedloom.NONE, 3L << 61, Feedloom.NONE));
            log.told(() -> x.fetch(0, Feedloom.NONE, Feedloom.NONE, 7L << 61, Feedloom.NONE));
        }
    };

    abstract void write(Reader x, int items, Log log);

    String at(Reader x) {
        Log log = new Log();
        write(x, x.items(), log);
        return log.text.toString();
    }

    private static final class Log {
        private final StringBuilder text = new StringBuilder();

        void told(Callable<?> call) {
            text.append(Checks.outcome(call)).append('\n');
        }
    }
}
