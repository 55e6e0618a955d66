import java.util.NoSuchElementException;

/** Promises 39 to 41 and 45: buying, owning and using items. */
public final class ItemTest {
    private ItemTest() {
    }

    public static void main(String[] args) {
        boughtItemsAreOwned();
        wrongPurchasesAreRefused();
        itemsAreUsedWithABuildThatSellsThem();
        wrongQuestionsAreRefused();
        usedShareCountsAllDevices();
        Checks.finish("ItemTest");
    }

    /** One device on build 0, which sells the items 0, 3 and 7. */
    private static Releasetrain shop() {
        Releasetrain store = new Releasetrain();
        store.addBuild(10, 63, 7, 100, 0, 1 + 8 + 128);
        Stores.approve(store, 0);
        store.stage(0, 100, 0);
        Stores.updatedDevices(store, 1);
        return store;
    }

    private static void boughtItemsAreOwned() {
        Releasetrain store = shop();
        Stores.updatedDevices(store, 1);
        Checks.due("not owned at first", false, store.owns(0, 7));
        Checks.due("first purchase", 1, store.buy(0, 7));
        Checks.due("second purchase", 2, store.buy(0, 0));
        Checks.due("third purchase", 3, store.buy(0, 3));
        for (int item = 0; item < 8; item++) {
            Checks.due("owns " + item, item == 0 || item == 3 || item == 7, store.owns(0, item));
            Checks.due("another device owns " + item, false, store.owns(1, item));
        }
        Checks.due("another device's first", 1, store.buy(1, 3));
    }

    private static void wrongPurchasesAreRefused() {
        Releasetrain store = shop();
        store.addDevice(0, 0, 0);
        store.buy(0, 0);
        String before = Stores.pictureOf(store, 2, 1);
        Checks.refused("buy(2, 8)", NoSuchElementException.class, () -> store.buy(2, 8));
        Checks.refused("buy(-1, 0)", NoSuchElementException.class, () -> store.buy(-1, 0));
        Checks.refused("buy(0, 8)", IllegalArgumentException.class, () -> store.buy(0, 8));
        Checks.refused("buy(0, -1)", IllegalArgumentException.class, () -> store.buy(0, -1));
        Checks.refused("no such item, without a build", IllegalArgumentException.class, () -> store.buy(1, 8));
        Checks.refused("without a build", IllegalStateException.class, () -> store.buy(1, 0));
        Checks.refused("owned already", IllegalStateException.class, () -> store.buy(0, 0));
        Checks.refused("not sold", UnsupportedOperationException.class, () -> store.buy(0, 1));
        Checks.due("all that the store tells", before, Stores.pictureOf(store, 2, 1));
        Stores.approve(store, store.addBuild(20, 63, 7, 100, 0, 2));
        store.stage(1, 100, 0);
        store.update(0);
        Checks.refused("owned, and not sold now", IllegalStateException.class, () -> store.buy(0, 0));
    }

    private static void itemsAreUsedWithABuildThatSellsThem() {
        Releasetrain store = shop();
        store.buy(0, 0);
        store.buy(0, 3);
        Checks.due("can use what it bought", true, store.canUse(0, 0));
        Checks.due("cannot use what it did not buy", false, store.canUse(0, 7));
        Stores.approve(store, store.addBuild(20, 63, 7, 100, 0, 8 + 16));
        store.stage(1, 100, 0);
        store.update(0);
        Checks.due("owns it still", true, store.owns(0, 0));
        Checks.due("cannot use what its build does not sell", false, store.canUse(0, 0));
        Checks.due("can use what both builds sell", true, store.canUse(0, 3));
        Checks.due("cannot use what it never bought", false, store.canUse(0, 4));
        Checks.due("one of two", 0.5f, store.usedShare());
        Checks.due("a purchase counts what it owns", 3, store.buy(0, 4));
        Checks.due("two of three", 2.0f / 3.0f, store.usedShare());
        store.setSize(1);
        Checks.due("a held build is used still", true, store.canUse(0, 3));
    }

    private static void wrongQuestionsAreRefused() {
        Releasetrain store = new Releasetrain();
        store.addDevice(0, 0, 0);
        for (int item = 0; item < 8; item++) {
            Checks.due("owns " + item + " without a build", false, store.owns(0, item));
            Checks.due("can use " + item + " without a build", false, store.canUse(0, item));
        }
        Checks.refused("owns(1, 8)", NoSuchElementException.class, () -> store.owns(1, 8));
        Checks.refused("owns(-1, 0)", NoSuchElementException.class, () -> store.owns(-1, 0));
        Checks.refused("canUse(1, 8)", NoSuchElementException.class, () -> store.canUse(1, 8));
        Checks.refused("canUse(-1, 0)", NoSuchElementException.class, () -> store.canUse(-1, 0));
        int[] wrong = {8, -1, 32, Integer.MIN_VALUE};
        for (int item : wrong) {
            Checks.refused("owns(0, " + item + ")", IllegalArgumentException.class, () -> store.owns(0, item));
            Checks.refused("canUse(0, " + item + ")", IllegalArgumentException.class, () -> store.canUse(0, item));
        }
    }

    private static void usedShareCountsAllDevices() {
        Releasetrain store = shop();
        Checks.refused("none owned", ArithmeticException.class, store::usedShare);
        Stores.updatedDevices(store, 2);
        store.addDevice(0, 0, 0);
        store.buy(0, 0);
        store.buy(0, 3);
        store.buy(1, 7);
        Checks.due("all used", 1.0f, store.usedShare());
        Stores.approve(store, store.addBuild(20, 63, 7, 100, 0, 8));
        store.stage(1, 100, 0);
        store.update(0);
        Checks.due("two of three", 2.0f / 3.0f, store.usedShare());
        store.update(1);
        Checks.due("one of three", 1.0f / 3.0f, store.usedShare());
        Stores.approve(store, store.addBuild(30, 63, 7, 100, 0, 0));
        store.stage(2, 100, 0);
        store.update(0);
        Checks.due("none of three", 0.0f, store.usedShare());
    }
}
