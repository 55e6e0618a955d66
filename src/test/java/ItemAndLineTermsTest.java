/** The sentences of "Items" in the document, those of the line and those of the share, each at its edges. */
public final class ItemAndLineTermsTest {
    private ItemAndLineTermsTest() {
    }

    public static void main(String[] args) {
        itemsFromNoneToAll();
        ownedWhateverBuildItHasLater();
        usedIfTheBuildSellsIt();
        ownersAreToldApart();
        heldBuildsSellAndAreUsed();
        shareOfNone();
        shareFromNoneToAll();
        shareIsAFloat();
        shortestAndLongestLines();
        everyStateInALine();
        everyHoldInALine();
        lineInPlaceOfTheLineBefore();
        lineIsEmptyAtFirst();
        Checks.finish("ItemAndLineTermsTest");
    }

    private static int release(Releasetrain store, int version, int items) {
        int build = Stores.approve(store, store.addBuild(version, 63, 7, 100, 0, items));
        store.stage(build, 100, 0);
        return build;
    }

    private static Releasetrain shop(int items, int devices) {
        Releasetrain store = new Releasetrain();
        release(store, 1, items);
        Stores.updatedDevices(store, devices);
        return store;
    }

    /** "the number of items that it owns then", from the first to all eight */
    private static void itemsFromNoneToAll() {
        Releasetrain store = shop(255, 1);
        for (int i = 0; i < 8; i++) {
            int item = i;
            Checks.due("owned before", false, store.owns(0, item));
            Checks.due("used before", false, store.canUse(0, item));
            Checks.due("items owned", item + 1, store.buy(0, item));
            Checks.due("owned then", true, store.owns(0, item));
            Checks.due("used then", true, store.canUse(0, item));
            Checks.refused("bought again", IllegalStateException.class, () -> store.buy(0, item));
        }
        Checks.refused("a ninth item", IllegalArgumentException.class, () -> store.buy(0, 8));
        Checks.due("all used", 1.0f, store.usedShare());
        Releasetrain none = shop(0, 1);
        for (int i = 0; i < 8; i++) {
            int item = i;
            Checks.refused("no item is sold", UnsupportedOperationException.class, () -> none.buy(0, item));
        }
    }

    /** "A device owns what it bought, whatever build it has later." */
    private static void ownedWhateverBuildItHasLater() {
        Releasetrain store = shop(129, 1);
        store.buy(0, 0);
        store.buy(0, 7);
        release(store, 2, 0);
        store.update(0);
        Checks.due("item 0", true, store.owns(0, 0));
        Checks.due("item 7", true, store.owns(0, 7));
        Checks.due("item 1, never bought", false, store.owns(0, 1));
        Checks.refused("item 0 again", IllegalStateException.class, () -> store.buy(0, 0));
        Checks.refused("item 1, not sold", UnsupportedOperationException.class, () -> store.buy(0, 1));
        release(store, 3, 255);
        store.update(0);
        Checks.due("items owned with one more", 3, store.buy(0, 1));
    }

    /** "It can use an item that it owns if the build that it has sells it." */
    private static void usedIfTheBuildSellsIt() {
        Releasetrain store = shop(3, 1);
        store.buy(0, 0);
        store.buy(0, 1);
        release(store, 2, 2 + 4);
        store.update(0);
        boolean[] due = {false, true, false, false, false, false, false, false};
        for (int item = 0; item < 8; item++) {
            Checks.due("can use item " + item, due[item], store.canUse(0, item));
            Checks.due("owns item " + item, item < 2, store.owns(0, item));
        }
        release(store, 3, 1);
        store.update(0);
        Checks.due("item 0 again", true, store.canUse(0, 0));
        Checks.due("item 1 no more", false, store.canUse(0, 1));
    }

    private static void ownersAreToldApart() {
        Releasetrain store = shop(255, 12);
        for (int device = 0; device < 12; device++) {
            Checks.due("first item of device " + device, 1, store.buy(device, device % 8));
        }
        for (int device = 0; device < 12; device++) {
            for (int item = 0; item < 8; item++) {
                Checks.due("device " + device + " owns " + item, item == device % 8, store.owns(device, item));
            }
        }
    }

    /** A device keeps a build that is held, so it goes on to buy and to use what that one sells. */
    private static void heldBuildsSellAndAreUsed() {
        Releasetrain store = shop(3, 1);
        store.buy(0, 0);
        store.setSize(1);
        Checks.due("hold", 'v', store.holdOf(0));
        Checks.due("bought of a held build", 2, store.buy(0, 1));
        Checks.due("used with a held build", true, store.canUse(0, 0));
        Checks.due("share with a held build", 1.0f, store.usedShare());
    }

    /** "if they own none" */
    private static void shareOfNone() {
        Releasetrain store = new Releasetrain();
        Checks.refused("no devices", ArithmeticException.class, store::usedShare);
        store.addDevice(0, 0, 0);
        Checks.refused("no builds", ArithmeticException.class, store::usedShare);
        release(store, 1, 255);
        store.update(0);
        Checks.refused("no items", ArithmeticException.class, store::usedShare);
        store.buy(0, 0);
        Checks.due("one item", 1.0f, store.usedShare());
    }

    private static void shareFromNoneToAll() {
        Releasetrain store = shop(255, 12);
        for (int device = 0; device < 12; device++) {
            for (int item = 0; item < 8; item++) {
                store.buy(device, item);
            }
        }
        Checks.due("96 of 96", 1.0f, store.usedShare());
        release(store, 2, 0);
        for (int device = 0; device < 12; device++) {
            store.update(device);
            Checks.due("can use", (float) (88 - 8 * device) / 96.0f, store.usedShare());
        }
    }

    /** "their number divided by that of all that they own, both converted to float" */
    private static void shareIsAFloat() {
        for (int owned = 1; owned <= 8; owned++) {
            for (int used = 0; used <= owned; used++) {
                Releasetrain store = shop((1 << owned) - 1, 1);
                for (int item = 0; item < owned; item++) {
                    store.buy(0, item);
                }
                release(store, 2, (1 << used) - 1);
                store.update(0);
                Checks.due(used + " of " + owned, (float) used / (float) owned, store.usedShare());
            }
        }
    }

    /** "the length of the line", and each of its characters from index 0 */
    private static void shortestAndLongestLines() {
        Releasetrain store = new Releasetrain();
        Stores.draft(store, 1);
        dueLine(store, 0, "v1 app draft");
        store.addFix(0, 999, 100, 0);
        Stores.approve(store, 1);
        store.stage(1, 100, 0);
        Stores.updatedDevices(store, 3);
        for (int device = 0; device < 3; device++) {
            Stores.crashWith(store, device, "a");
        }
        dueLine(store, 1, "v999 fix held by crashes");
        dueLine(store, 0, "v1 app draft");
        int[] versions = {9, 10, 99, 100, 998};
        for (int version : versions) {
            dueLine(store, Stores.draft(store, version), "v" + version + " app draft");
        }
    }

    private static void dueLine(Releasetrain store, int build, String due) {
        Checks.due("length of " + due, due.length(), store.writeBuild(build));
        for (int index = 0; index < due.length(); index++) {
            Checks.due("index " + index + " of " + due, due.charAt(index), store.lineAt(index));
        }
        Checks.refused("behind " + due, IndexOutOfBoundsException.class, () -> store.lineAt(due.length()));
        Checks.refused("ahead of " + due, IndexOutOfBoundsException.class, () -> store.lineAt(-1));
    }

    /** "\"draft\", \"waiting\", \"refused\", \"approved\"" */
    private static void everyStateInALine() {
        String[] lines = {"v10 app approved", "v20 fix approved", "v30 app draft", "v40 app waiting",
            "v50 fix waiting", "v60 app refused", "v70 app refused", "v75 app waiting", "v80 app held by review"};
        Releasetrain store = Pasts.busy();
        for (int build = 0; build < lines.length; build++) {
            dueLine(store, build, lines[build]);
        }
    }

    /** "or if it is held, \"held by \" and \"review\", \"crashes\" or \"ratings\"" */
    private static void everyHoldInALine() {
        Releasetrain store = new Releasetrain();
        Stores.rolledOut(store, 12, 100);
        Stores.updatedDevices(store, 3);
        dueLine(store, 0, "v12 app approved");
        for (int device = 0; device < 3; device++) {
            store.rate(device, 2);
        }
        dueLine(store, 0, "v12 app held by ratings");
        Stores.crashWith(store, 0, "a");
        Stores.crashWith(store, 0, "a");
        dueLine(store, 0, "v12 app held by crashes");
        store.setBarred(15);
        dueLine(store, 0, "v12 app held by crashes");
        store.setSize(99);
        dueLine(store, 0, "v12 app held by review");
        store.addFix(0, 13, 200, 0);
        dueLine(store, 1, "v13 fix draft");
        store.submit(1);
        dueLine(store, 1, "v13 fix waiting");
        store.review();
        dueLine(store, 1, "v13 fix refused");
    }

    /** "in place of the line before": a shorter line leaves nothing of a longer one. */
    private static void lineInPlaceOfTheLineBefore() {
        Releasetrain store = Pasts.busy();
        Checks.due("the line before", "v80 app held by review", Stores.writtenLine(store));
        dueLine(store, Pasts.DRAFT, "v30 app draft");
        Checks.refused("no such build", java.util.NoSuchElementException.class,
                () -> store.writeBuild(Pasts.BUILDS));
        Checks.due("the line still", "v30 app draft", Stores.writtenLine(store));
        store.submit(Pasts.DRAFT);
        Checks.due("the line of its time", "v30 app draft", Stores.writtenLine(store));
        dueLine(store, Pasts.DRAFT, "v30 app waiting");
    }

    /** "which is empty at first" */
    private static void lineIsEmptyAtFirst() {
        Releasetrain store = new Releasetrain();
        int[] indexes = {0, 1, -1, Integer.MAX_VALUE, Integer.MIN_VALUE};
        for (int index : indexes) {
            Checks.refused("index " + index, IndexOutOfBoundsException.class, () -> store.lineAt(index));
        }
        Checks.refused("no such build", java.util.NoSuchElementException.class, () -> store.writeBuild(0));
        Checks.due("the line still", "", Stores.writtenLine(store));
    }
}
