/** The sentences of "Devices" and "Builds" in the document, each at its edges. */
public final class DeviceAndBuildTermsTest {
    private DeviceAndBuildTermsTest() {
    }

    public static void main(String[] args) {
        atMostTwelveDevicesHaveNumbersFromZero();
        modelsFromZeroToFive();
        languagesFromZeroToTwo();
        bucketsFromZeroToNinetyNine();
        oneBuildOrNoneAsAtFirst();
        atMostTenBuildsHaveNumbersFromZero();
        versionsThatNoOtherBuildHas();
        refusedVersionsStayFree();
        sizesFromOneToFiveHundred();
        permissionsFromZeroToThree();
        itemsFromZeroToSeven();
        fixesAreMadeWithTheOfferOfTheMendedBuild();
        fixesMendBuildsInAnyState();
        newStoresHaveTheLimitsOfTheTerms();
        Checks.finish("DeviceAndBuildTermsTest");
    }

    /** "At most 12 devices have numbers from 0." */
    private static void atMostTwelveDevicesHaveNumbersFromZero() {
        Releasetrain store = new Releasetrain();
        Stores.rolledOut(store, 1, 100);
        for (int device = 0; device < 12; device++) {
            Checks.due("device added", device, store.addDevice(0, 0, 0));
        }
        Checks.refused("a thirteenth", IllegalStateException.class, () -> store.addDevice(0, 0, 0));
        for (int device = 0; device < 12; device++) {
            Checks.due("update of device " + device, 0, store.update(device));
            Checks.due("devices with the build", device + 1, store.devicesWith(0));
        }
    }

    /** A build for one model and one language, all of it rolled out. */
    private static Releasetrain storeFor(int models, int languages) {
        Releasetrain store = new Releasetrain();
        Stores.approve(store, store.addBuild(1, models, languages, 100, 0, 0));
        store.stage(0, 100, 0);
        return store;
    }

    /** "A device has a model from 0 to 5": 1 for the number 0, 2 for 1, 4 for 2, and so on. */
    private static void modelsFromZeroToFive() {
        for (int power = 0; power < 6; power++) {
            Releasetrain store = storeFor(1 << power, 7);
            for (int model = 0; model < 6; model++) {
                int device = store.addDevice(model, 0, 0);
                Checks.due("model " + model + " of models " + (1 << power), model == power,
                        store.couldHave(device, 0));
            }
            Checks.due("reach of models " + (1 << power), 1, store.reach(0));
            Checks.due("devices found one by one", 1, store.reachByDevices(0));
        }
    }

    /** "a language from 0 to 2" */
    private static void languagesFromZeroToTwo() {
        for (int power = 0; power < 3; power++) {
            Releasetrain store = storeFor(63, 1 << power);
            for (int language = 0; language < 3; language++) {
                int device = store.addDevice(0, language, 0);
                Checks.due("language " + language + " of languages " + (1 << power), language == power,
                        store.couldHave(device, 0));
            }
            Checks.due("reach of languages " + (1 << power), 1, store.reach(0));
            Checks.due("devices found one by one", 1, store.reachByDevices(0));
        }
    }

    /** "a bucket from 0 to 99" */
    private static void bucketsFromZeroToNinetyNine() {
        Releasetrain store = new Releasetrain();
        Stores.approved(store, 1);
        store.addDevice(0, 0, 0);
        store.addDevice(0, 0, 99);
        store.stage(0, 1, 0);
        Checks.due("bucket 0 of 1 percent", true, store.couldHave(0, 0));
        store.stage(0, 99, 0);
        Checks.due("bucket 99 of 99 percent", false, store.couldHave(1, 0));
        store.stage(0, 100, 0);
        Checks.due("bucket 99 of 100 percent", true, store.couldHave(1, 0));
    }

    /** "It has one build, or none, as at first." */
    private static void oneBuildOrNoneAsAtFirst() {
        Releasetrain store = new Releasetrain();
        Stores.rolledOut(store, 1, 100);
        store.addDevice(0, 0, 0);
        Checks.refused("no build at first", IllegalStateException.class, () -> store.buildOf(0));
        Checks.due("devices with it at first", 0, store.devicesWith(0));
        store.update(0);
        Stores.rolledOut(store, 2, 100);
        store.update(0);
        Checks.due("one build", 1, store.buildOf(0));
        Checks.due("devices with the earlier one", 0, store.devicesWith(0));
        Checks.due("devices with the one it has", 1, store.devicesWith(1));
    }

    /** "At most 10 builds have numbers from 0." */
    private static void atMostTenBuildsHaveNumbersFromZero() {
        Releasetrain store = new Releasetrain();
        for (int build = 0; build < 10; build++) {
            Checks.due("build added", build, build % 3 == 2 ? store.addFix(0, 10 - build, 1, 0)
                    : Stores.draft(store, 10 - build));
        }
        Checks.refused("an eleventh", IllegalStateException.class, () -> Stores.draft(store, 11));
        Checks.refused("an eleventh that is a fix", IllegalStateException.class, () -> store.addFix(9, 11, 1, 0));
        for (int build = 0; build < 10; build++) {
            Checks.due("line of build " + build, "v" + (10 - build) + (build % 3 == 2 ? " fix" : " app") + " draft",
                    Stores.lineOf(store, build));
        }
    }

    /** "A build has a version from 1 to 999, which no other build has" */
    private static void versionsThatNoOtherBuildHas() {
        Releasetrain store = new Releasetrain();
        Checks.due("the least version", 0, Stores.draft(store, 1));
        Checks.due("the greatest version, of a fix", 1, store.addFix(0, 999, 1, 0));
        Checks.due("the least but one, of a fix", 2, store.addFix(1, 2, 1, 0));
        Checks.due("the greatest but one", 3, Stores.draft(store, 998));
        int[] taken = {1, 2, 998, 999};
        for (int version : taken) {
            Checks.refused("an app of " + version, IllegalStateException.class, () -> Stores.draft(store, version));
            Checks.refused("a fix of " + version, IllegalStateException.class,
                    () -> store.addFix(0, version, 1, 0));
        }
        Checks.due("a version between", 4, Stores.draft(store, 3));
    }

    /** "A method that throws an exception changes nothing": it takes no version either. */
    private static void refusedVersionsStayFree() {
        Releasetrain store = new Releasetrain();
        Checks.refused("an app of no size", IllegalArgumentException.class,
                () -> store.addBuild(5, 63, 7, 0, 0, 0));
        Checks.due("an app of its version", 0, Stores.draft(store, 5));
        Checks.refused("a fix of no size", IllegalArgumentException.class, () -> store.addFix(0, 6, 0, 0));
        Checks.due("a fix of its version", 1, store.addFix(0, 6, 1, 0));
    }

    /** "a size from 1 to 500": builds of both sizes are told apart by the limits next to them. */
    private static void sizesFromOneToFiveHundred() {
        Releasetrain store = new Releasetrain();
        store.addBuild(1, 63, 7, 1, 0, 0);
        store.addBuild(2, 63, 7, 500, 0, 0);
        store.addFix(0, 3, 500, 0);
        store.addFix(1, 4, 1, 0);
        int[] due = {'-', 's', 's', '-'};
        for (int build = 0; build < 4; build++) {
            store.setSize(build == 0 || build == 3 ? 1 : 499);
            store.submit(build);
            Checks.due("review of build " + build, (char) due[build], store.review());
        }
        store.setSize(500);
        store.appeal(1);
        store.appeal(2);
        Checks.due("a fix of size 500 at 500", '-', store.review());
        Checks.due("a build of size 500 at 500", '-', store.review());
    }

    /** "permissions from 0 to 3": each bars as the power of 2 of its number, and no other does. */
    private static void permissionsFromZeroToThree() {
        for (int permission = 0; permission < 4; permission++) {
            Releasetrain store = new Releasetrain();
            store.addBuild(1, 63, 7, 1, 1 << permission, 0);
            store.addBuild(2, 63, 7, 1, 15 - (1 << permission), 0);
            store.addFix(0, 3, 1, 1 << permission);
            store.addFix(1, 4, 1, 15 - (1 << permission));
            store.setBarred(1 << permission);
            char[] due = {'p', '-', 'p', '-'};
            for (int build = 0; build < 4; build++) {
                store.submit(build);
                Checks.due("permission " + permission + " barred, build " + build, due[build], store.review());
            }
        }
    }

    /** "items from 0 to 7 that it sells": each as the power of 2 of its number, and no other. */
    private static void itemsFromZeroToSeven() {
        for (int power = 0; power < 8; power++) {
            Releasetrain store = new Releasetrain();
            Stores.approve(store, store.addBuild(1, 63, 7, 100, 0, 1 << power));
            store.stage(0, 100, 0);
            Stores.updatedDevices(store, 1);
            for (int i = 0; i < 8; i++) {
                int item = i;
                if (item == power) {
                    Checks.due("buy of item " + item, 1, store.buy(0, item));
                } else {
                    Checks.refused("buy of item " + item + " of items " + (1 << power),
                            UnsupportedOperationException.class, () -> store.buy(0, item));
                }
                Checks.due("can use item " + item, item == power, store.canUse(0, item));
            }
        }
    }

    /** "it is made with the models, the languages and the items of that one": not with its size or permissions. */
    private static void fixesAreMadeWithTheOfferOfTheMendedBuild() {
        Releasetrain store = new Releasetrain();
        store.addBuild(1, 32, 4, 300, 8, 128);
        store.addFix(0, 2, 100, 1);
        store.addFix(1, 3, 100, 2);
        store.setBarred(8);
        Checks.due("fix of a fix", 1, store.submit(2));
        Checks.due("its review", '-', store.review());
        store.stage(2, 100, 0);
        int[][] devices = {{5, 2}, {4, 2}, {5, 1}, {0, 0}};
        for (int i = 0; i < devices.length; i++) {
            store.addDevice(devices[i][0], devices[i][1], 99);
            Checks.due("device " + i + " could have it", i == 0, store.couldHave(i, 2));
        }
        Checks.due("reach", 1, store.reach(2));
        store.update(0);
        for (int i = 0; i < 7; i++) {
            int item = i;
            Checks.refused("item " + item, UnsupportedOperationException.class, () -> store.buy(0, item));
        }
        Checks.due("item 7", 1, store.buy(0, 7));
    }

    /** "A fix is a build that mends another build": no state is named, so it mends one in any state. */
    private static void fixesMendBuildsInAnyState() {
        int[] mended = {Pasts.STAGED, Pasts.UNSTAGED_FIX, Pasts.DRAFT, Pasts.WAITING, Pasts.WAITING_FIX,
            Pasts.REFUSED, Pasts.REFUSED_TWICE, Pasts.APPEALED, Pasts.HELD};
        for (int build : mended) {
            Releasetrain store = Pasts.busy();
            Checks.due("fix of build " + build, Pasts.BUILDS, store.addFix(build, 999, 100, 0));
            Checks.due("its line", "v999 fix draft", Stores.lineOf(store, Pasts.BUILDS));
        }
    }

    /** "200 at first", "none is at first", "0.5f at first" twice, "empty at first", "0 at first". */
    private static void newStoresHaveTheLimitsOfTheTerms() {
        Releasetrain store = new Releasetrain();
        int half = Float.floatToIntBits(0.5f);
        Checks.due("the day", 0, store.day());
        Checks.due("groups", 0, store.groups());
        Checks.due("the line", "", Stores.writtenLine(store));
        Checks.due("the length of the first letter's text", 1, store.type('a'));
        Checks.due("the greatest size", 200, store.setSize(500));
        Checks.due("barred permissions", 0, store.setBarred(15));
        Checks.due("the bound", half, store.setBound(0));
        Checks.due("the greatest rate", half, store.setRate(0));
        Checks.due("the first device", 0, store.addDevice(0, 0, 0));
        Checks.due("the first build", 0, Stores.draft(store, 1));
    }
}
