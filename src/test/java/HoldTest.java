import java.util.NoSuchElementException;

/** Promise 16, and promises 34 and 35 as far as they hold builds. */
public final class HoldTest {
    private HoldTest() {
    }

    public static void main(String[] args) {
        rulesHold();
        crashesHoldFromThreeInstallsOn();
        crashesHoldAboveTheRateOnly();
        ratingsHoldFromThreeOn();
        ratingsHoldBelowTwoAndAHalfOnly();
        firstReasonIsTold();
        wrongHoldsAreRefused();
        heldBuildsAreGivenToNobody();
        Checks.finish("HoldTest");
    }

    private static void rulesHold() {
        Releasetrain store = new Releasetrain();
        store.addBuild(1, 63, 7, 100, 5, 0);
        Stores.approve(store, 0);
        Checks.due("free", '-', store.holdOf(0));
        store.setSize(99);
        Checks.due("too large", 'v', store.holdOf(0));
        store.setSize(100);
        Checks.due("of the greatest size", '-', store.holdOf(0));
        store.setBarred(10);
        Checks.due("other permissions barred", '-', store.holdOf(0));
        store.setBarred(4);
        Checks.due("a permission barred", 'v', store.holdOf(0));
        store.setBarred(0);
        Checks.due("free again", '-', store.holdOf(0));
    }

    private static void crashesHoldFromThreeInstallsOn() {
        Releasetrain store = new Releasetrain();
        Stores.rolledOut(store, 1, 100);
        Stores.updatedDevices(store, 2);
        for (int i = 0; i < 5; i++) {
            Stores.crashWith(store, 0, "a");
        }
        Checks.due("two installs", '-', store.holdOf(0));
        Stores.updatedDevices(store, 1);
        Checks.due("three installs", 'c', store.holdOf(0));
    }

    private static void crashesHoldAboveTheRateOnly() {
        Releasetrain store = new Releasetrain();
        Stores.rolledOut(store, 1, 100);
        Stores.updatedDevices(store, 4);
        Stores.crashWith(store, 0, "a");
        Stores.crashWith(store, 1, "b");
        Checks.due("a rate of exactly a half", '-', store.holdOf(0));
        Stores.crashWith(store, 1, "b");
        Checks.due("a rate above a half", 'c', store.holdOf(0));
        store.setRate(750);
        Checks.due("the rate set to it", '-', store.holdOf(0));
        store.setRate(749);
        Checks.due("the rate set below it", 'c', store.holdOf(0));
        store.setRate(9999);
        Checks.due("the greatest rate", '-', store.holdOf(0));
        store.setRate(0);
        Checks.due("the least rate", 'c', store.holdOf(0));
    }

    private static void ratingsHoldFromThreeOn() {
        Releasetrain store = new Releasetrain();
        Stores.rolledOut(store, 1, 100);
        Stores.updatedDevices(store, 3);
        store.rate(0, 1);
        store.rate(1, 1);
        store.rate(1, 1);
        Checks.due("two ratings", '-', store.holdOf(0));
        store.rate(2, 1);
        Checks.due("three ratings", 't', store.holdOf(0));
        store.rate(2, 5);
        Checks.due("7 stars of three", 't', store.holdOf(0));
        store.rate(1, 2);
        Checks.due("8 stars of three", '-', store.holdOf(0));
    }

    private static void ratingsHoldBelowTwoAndAHalfOnly() {
        Releasetrain store = new Releasetrain();
        Stores.rolledOut(store, 1, 100);
        Stores.updatedDevices(store, 4);
        store.rate(0, 1);
        store.rate(1, 4);
        store.rate(2, 4);
        store.rate(3, 1);
        Checks.due("exactly 2.5", '-', store.holdOf(0));
        store.rate(1, 3);
        Checks.due("less than 2.5", 't', store.holdOf(0));
    }

    private static void firstReasonIsTold() {
        Releasetrain store = new Releasetrain();
        Stores.rolledOut(store, 1, 100);
        Stores.updatedDevices(store, 3);
        for (int i = 0; i < 3; i++) {
            Stores.crashWith(store, i, "a");
            store.rate(i, 1);
        }
        store.setSize(1);
        Checks.due("all three reasons", 'v', store.holdOf(0));
        store.setSize(200);
        Checks.due("crashes and ratings", 'c', store.holdOf(0));
        store.setRate(1000);
        Checks.due("ratings alone", 't', store.holdOf(0));
    }

    private static void wrongHoldsAreRefused() {
        Releasetrain store = new Releasetrain();
        Stores.draft(store, 1);
        Checks.refused("holdOf(1)", NoSuchElementException.class, () -> store.holdOf(1));
        Checks.refused("holdOf(-1)", NoSuchElementException.class, () -> store.holdOf(-1));
        Checks.refused("hold of a draft", IllegalStateException.class, () -> store.holdOf(0));
        store.submit(0);
        Checks.refused("hold of one that waits", IllegalStateException.class, () -> store.holdOf(0));
        store.setSize(1);
        store.review();
        Checks.refused("hold of a refused one", IllegalStateException.class, () -> store.holdOf(0));
    }

    private static void heldBuildsAreGivenToNobody() {
        Releasetrain store = new Releasetrain();
        Stores.rolledOut(store, 1, 100);
        Stores.updatedDevices(store, 3);
        store.addDevice(0, 0, 0);
        Checks.due("free", true, store.couldHave(3, 0));
        for (int i = 0; i < 3; i++) {
            store.rate(i, 2);
        }
        Checks.due("could have", false, store.couldHave(3, 0));
        Checks.due("reach", 0, store.reach(0));
        Checks.due("reach by devices", 0, store.reachByDevices(0));
        Checks.refused("update", IllegalStateException.class, () -> store.update(3));
        Checks.due("a device keeps a held build", 0, store.buildOf(0));
        store.rate(0, 5);
        Checks.due("free again", 0, store.update(3));
    }
}
