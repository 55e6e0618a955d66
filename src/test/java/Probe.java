import java.util.List;

/**
 * Each probe draws one part of a store's state out into the open; together they show all of it. Those from
 * QUEUE on change the store to do so, since some of the state is told by no question. QUEUE makes no call that
 * could be refused ahead of its reviews: what such a call did to the queue would hide what the twins differ in.
 */
enum Probe {
    DEVICES {
        @Override
        void put(Releasetrain store, Transcript told) {
            for (int i = 0; i < 13; i++) {
                int device = i;
                if (!told.found("buildOf", () -> store.buildOf(device))) {
                    return;
                }
                told.call("offered", () -> store.offered(device));
                for (int j = 0; j < 8; j++) {
                    int item = j;
                    told.call("owns", () -> store.owns(device, item));
                    told.call("canUse", () -> store.canUse(device, item));
                }
            }
        }
    },

    CHOICES {
        @Override
        void put(Releasetrain store, Transcript told) {
            for (int i = 0; i < 13; i++) {
                for (int j = 0; j < 11; j++) {
                    int device = i;
                    int build = j;
                    if (!told.found("couldHave", () -> store.couldHave(device, build))) {
                        break;
                    }
                }
            }
        }
    },

    BUILDS {
        @Override
        void put(Releasetrain store, Transcript told) {
            for (int i = 0; i < 11; i++) {
                int build = i;
                if (!told.found("stateOf", () -> store.stateOf(build))) {
                    return;
                }
                told.call("holdOf", () -> store.holdOf(build));
                told.call("percentageOf", () -> store.percentageOf(build));
                told.call("percentageAfter 1", () -> store.percentageAfter(build, 1));
                told.call("percentageAfter 2", () -> store.percentageAfter(build, 2));
                told.call("reach", () -> store.reach(build));
                told.call("reachByDevices", () -> store.reachByDevices(build));
                told.call("devicesWith", () -> store.devicesWith(build));
                told.call("installs", () -> store.installs(build));
                told.call("crashRate", () -> store.crashRate(build));
                told.call("rating", () -> store.rating(build));
                told.call("ratingBits", () -> store.ratingBits(build));
            }
        }
    },

    GROUPS {
        @Override
        void put(Releasetrain store, Transcript told) {
            told.call("groups", store::groups);
            told.call("worstGroup", store::worstGroup);
            for (int i = 0; i < 31; i++) {
                int group = i;
                if (!told.found("crashesIn", () -> store.crashesIn(group))) {
                    return;
                }
                told.call("buildsIn", () -> store.buildsIn(group));
                told.call("likeness", () -> store.likeness(group, 0));
                tellStack(store, told, group);
            }
        }
    },

    LINE_AND_DAY {
        @Override
        void put(Releasetrain store, Transcript told) {
            told.call("day", store::day);
            told.call("usedShare", store::usedShare);
            told.call("nextInReview", store::nextInReview);
            int index = 0;
            boolean more = true;
            while (more && index < 30) {
                int asked = index;
                more = told.answered("lineAt", () -> store.lineAt(asked));
                index++;
            }
        }
    },

    QUEUE {
        @Override
        void put(Releasetrain store, Transcript told) {
            reviewAll(store, told);
        }
    },

    APPROVALS {
        @Override
        void put(Releasetrain store, Transcript told) {
            told.call("setSize", () -> store.setSize(500));
            told.call("setBarred", () -> store.setBarred(0));
            submitAll(store, told);
            appealAll(store, told);
            reviewAll(store, told);
            for (int i = 0; i < 11; i++) {
                int build = i;
                told.call("stage", () -> store.stage(build, 100, 0));
                told.call("writeBuild", () -> store.writeBuild(build));
            }
            told.call("addFix", () -> store.addFix(0, 500, 1, 0));
        }
    },

    APPEALS {
        @Override
        void put(Releasetrain store, Transcript told) {
            told.call("setSize", () -> store.setSize(1));
            submitAll(store, told);
            reviewAll(store, told);
            appealAll(store, told);
            reviewAll(store, told);
        }
    },

    HIDDEN {
        @Override
        void put(Releasetrain store, Transcript told) {
            told.call("type", () -> store.type('q'));
            told.call("setSize", () -> store.setSize(500));
            told.call("setBarred", () -> store.setBarred(0));
            told.call("setBound", () -> store.setBound(1000));
            told.call("setRate", () -> store.setRate(9999));
            tellTypedText(store, told);
            for (int i = 0; i < 13; i++) {
                int device = i;
                told.call("rate", () -> store.rate(device, 3));
                told.call("update", () -> store.update(device));
                told.call("rate again", () -> store.rate(device, 3));
            }
            told.call("pass", () -> store.pass(1));
            for (int i = 0; i < 11; i++) {
                int build = i;
                told.call("percentageOf", () -> store.percentageOf(build));
            }
            told.call("addDevice", () -> store.addDevice(0, 0, 0));
            told.call("addBuild", () -> store.addBuild(500, 1, 1, 1, 0, 0));
        }
    };

    abstract void put(Releasetrain store, Transcript told);

    List<String> of(Releasetrain store) {
        Transcript told = new Transcript();
        put(store, told);
        return told.calls();
    }

    private static void submitAll(Releasetrain store, Transcript told) {
        for (int i = 0; i < 11; i++) {
            int build = i;
            told.call("submit", () -> store.submit(build));
        }
    }

    private static void appealAll(Releasetrain store, Transcript told) {
        for (int i = 0; i < 11; i++) {
            int build = i;
            told.call("appeal", () -> store.appeal(build));
        }
    }

    private static void reviewAll(Releasetrain store, Transcript told) {
        boolean more = true;
        while (more) {
            told.call("nextInReview", store::nextInReview);
            more = told.answered("review", store::review);
        }
    }

    private static void tellStack(Releasetrain store, Transcript told, int group) {
        boolean more = true;
        for (int i = 0; i <= 6 && more; i++) {
            int place = i;
            more = told.answered("stackAt", () -> store.stackAt(group, place));
        }
    }

    /** The text shows as the stack of a crash; only the first crash has it. */
    private static void tellTypedText(Releasetrain store, Transcript told) {
        for (int i = 0; i < 13; i++) {
            int device = i;
            if (told.answered("buildOf", () -> store.buildOf(device))) {
                told.call("crash", () -> store.crash(device));
                tellStack(store, told, store.groups() - 1);
                return;
            }
        }
    }
}
