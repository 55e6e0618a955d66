/** The pasts of twins: each answers a new store with the same state each time, after at most 200 calls. */
final class Pasts {
    static final int DEVICES = 3;
    static final int BUILDS = 9;
    static final int GROUPS = 2;

    /** The builds of busy(), by what became of them. */
    static final int STAGED = 0;
    static final int UNSTAGED_FIX = 1;
    static final int DRAFT = 2;
    static final int WAITING = 3;
    static final int WAITING_FIX = 4;
    static final int REFUSED = 5;
    static final int REFUSED_TWICE = 6;
    static final int APPEALED = 7;
    static final int HELD = 8;

    private Pasts() {
    }

    static Releasetrain empty() {
        return new Releasetrain();
    }

    /**
     * Something of everything. Devices 0 and 1 have the build STAGED, which sells the items 0 and 3;
     * device 0 bought item 0 and gave 4 stars; device 2 could have nothing. The typed text is "mn".
     */
    static Releasetrain busy() {
        Releasetrain store = busyWithoutText();
        Stores.typeText(store, "mn");
        return store;
    }

    static Releasetrain busyWithoutText() {
        Releasetrain store = new Releasetrain();
        addBuilds(store);
        store.addDevice(0, 0, 10);
        store.addDevice(1, 1, 20);
        store.addDevice(2, 2, 99);
        store.stage(STAGED, 33, 7);
        store.update(0);
        store.update(1);
        store.rate(0, 4);
        store.buy(0, 0);
        Stores.crashWith(store, 0, "abc");
        Stores.crashWith(store, 1, "x");
        store.stage(HELD, 60, 2);
        store.setSize(250);
        store.setBarred(8);
        store.setBound(600);
        store.setRate(1500);
        store.pass(1);
        store.writeBuild(HELD);
        return store;
    }

    private static void addBuilds(Releasetrain store) {
        Stores.approve(store, store.addBuild(10, 63, 7, 100, 1, 1 + 8));
        Stores.approve(store, store.addFix(STAGED, 20, 100, 2));
        store.addBuild(30, 3, 1, 150, 0, 255);
        store.addBuild(40, 63, 7, 100, 0, 0);
        store.addFix(STAGED, 50, 100, 0);
        Stores.approve(store, store.addBuild(60, 63, 7, 300, 0, 0));
        Stores.approve(store, store.addBuild(70, 63, 7, 301, 0, 0));
        store.appeal(REFUSED_TWICE);
        store.review();
        Stores.approve(store, store.addBuild(75, 63, 7, 302, 0, 0));
        Stores.approve(store, store.addBuild(80, 63, 7, 100, 8, 2));
        store.submit(WAITING);
        store.submit(WAITING_FIX);
        store.appeal(APPEALED);
    }

    static Releasetrain fullText() {
        Releasetrain store = busyWithoutText();
        Stores.typeText(store, "mnopqr");
        return store;
    }

    static Releasetrain fullOfDevices() {
        Releasetrain store = new Releasetrain();
        Stores.rolledOut(store, 10, 50);
        for (int i = 0; i < 12; i++) {
            store.addDevice(i % 6, i % 3, 8 * i);
        }
        return store;
    }

    /** The versions 1 to 10, odd ones apps and even ones fixes. */
    static Releasetrain fullOfBuilds() {
        Releasetrain store = new Releasetrain();
        for (int i = 0; i < 10; i += 2) {
            Stores.draft(store, i + 1);
            store.addFix(0, i + 2, 100, 0);
        }
        store.addDevice(0, 0, 0);
        return store;
    }

    /** The stacks "a" to "z" and "ax" to "dx", at the bound 1. */
    static Releasetrain fullOfGroups() {
        Releasetrain store = new Releasetrain();
        Stores.rolledOut(store, 10, 100);
        Stores.updatedDevices(store, 1);
        store.setBound(1000);
        for (int i = 0; i < 30; i++) {
            String stack = "" + (char) ('a' + i % 26) + (i < 26 ? "" : "x");
            Stores.crashWith(store, 0, stack);
        }
        return store;
    }

    static Releasetrain fullOfGroupsTyped() {
        Releasetrain store = fullOfGroups();
        Stores.typeText(store, "ay");
        return store;
    }

    /** A percentage of 1 with a step of 1, on the day that is told, a multiple of 9. */
    static Releasetrain onDay(int day) {
        Releasetrain store = new Releasetrain();
        Stores.approved(store, 1);
        for (int i = 0; i < day / 9; i++) {
            store.pass(9);
        }
        store.stage(0, 1, 1);
        return store;
    }

    static Releasetrain lastDay() {
        return onDay(999);
    }

    static Releasetrain nineDaysBeforeTheLast() {
        return onDay(990);
    }

    /** Build 0 sells item 0, build 1 does not; device 0 bought it and has build 1 now. */
    static Releasetrain ownedAndNotSoldNow() {
        Releasetrain store = new Releasetrain();
        Stores.approve(store, store.addBuild(1, 63, 7, 100, 0, 1));
        store.stage(0, 100, 0);
        Stores.updatedDevices(store, 1);
        store.buy(0, 0);
        Stores.approve(store, store.addBuild(2, 63, 7, 100, 0, 2));
        store.stage(1, 100, 0);
        store.update(0);
        return store;
    }
}
