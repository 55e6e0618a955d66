import java.util.NoSuchElementException;
import java.util.TreeSet;

/**
 * Every number that a call takes, at both ends of its range, just outside, far outside, and at numbers
 * that a narrower type would wrap round into the range. A call that is refused changes nothing.
 */
public final class RangeTest {
    private interface IntCall {
        void make(Releasetrain store, int number);
    }

    private RangeTest() {
    }

    public static void main(String[] args) {
        numbersOfDevicesToAdd();
        numbersOfBuildsToAdd();
        numbersOfFixesToAdd();
        limitsToSet();
        stagesAndDays();
        lettersToType();
        starsAndItems();
        devicesThatThereAre();
        buildsThatThereAre();
        buildsThatAreChanged();
        groupsThatThereAre();
        placesAndIndexes();
        Checks.finish("RangeTest");
    }

    private static void inRange(String call, int least, int greatest, IntCall made) {
        checkEnds(call, IllegalArgumentException.class, least, greatest, made);
    }

    private static void known(String call, int count, IntCall made) {
        checkEnds(call, NoSuchElementException.class, 0, count - 1, made);
    }

    private static void checkEnds(String call, Class<? extends RuntimeException> due, int least, int greatest,
            IntCall made) {
        checkTaken(call, due, least, made);
        checkTaken(call, due, greatest, made);
        for (int number : outside(least, greatest)) {
            Twins.refused(call + " with " + number, due, Pasts::busy, store -> made.make(store, number));
        }
    }

    /** What else such a call does, and which other exception it may throw, other tests say. */
    private static void checkTaken(String call, Class<? extends RuntimeException> refusal, int number, IntCall made) {
        Releasetrain store = Pasts.busy();
        boolean taken = true;
        try {
            made.make(store, number);
        } catch (RuntimeException e) {
            taken = e.getClass() != refusal;
        }
        Checks.due(call + " takes " + number, true, taken);
    }

    private static TreeSet<Integer> outside(int least, int greatest) {
        TreeSet<Integer> numbers = new TreeSet<>();
        int[] wrapped = {256, 65536, 1 << 20, -256, -65536};
        for (int by : wrapped) {
            numbers.add(least + by);
            numbers.add(greatest + by);
        }
        numbers.removeIf(number -> number >= least && number <= greatest);
        numbers.add(least - 1);
        numbers.add(greatest + 1);
        numbers.add(Integer.MIN_VALUE);
        numbers.add(Integer.MAX_VALUE);
        return numbers;
    }

    private static void numbersOfDevicesToAdd() {
        inRange("addDevice's model", 0, 5, (store, model) -> store.addDevice(model, 0, 0));
        inRange("addDevice's language", 0, 2, (store, language) -> store.addDevice(0, language, 0));
        inRange("addDevice's bucket", 0, 99, (store, bucket) -> store.addDevice(0, 0, bucket));
    }

    private static void numbersOfBuildsToAdd() {
        inRange("addBuild's version", 1, 999, (store, version) -> store.addBuild(version, 1, 1, 1, 0, 0));
        inRange("addBuild's models", 1, 63, (store, models) -> store.addBuild(500, models, 1, 1, 0, 0));
        inRange("addBuild's languages", 1, 7, (store, languages) -> store.addBuild(500, 1, languages, 1, 0, 0));
        inRange("addBuild's size", 1, 500, (store, size) -> store.addBuild(500, 1, 1, size, 0, 0));
        inRange("addBuild's permissions", 0, 15, (store, permissions) -> store.addBuild(500, 1, 1, 1, permissions, 0));
        inRange("addBuild's items", 0, 255, (store, items) -> store.addBuild(500, 1, 1, 1, 0, items));
    }

    private static void numbersOfFixesToAdd() {
        known("addFix's build", Pasts.BUILDS, (store, build) -> store.addFix(build, 500, 1, 0));
        inRange("addFix's version", 1, 999, (store, version) -> store.addFix(0, version, 1, 0));
        inRange("addFix's size", 1, 500, (store, size) -> store.addFix(0, 500, size, 0));
        inRange("addFix's permissions", 0, 15, (store, permissions) -> store.addFix(0, 500, 1, permissions));
    }

    private static void limitsToSet() {
        inRange("setSize", 1, 500, Releasetrain::setSize);
        inRange("setBarred", 0, 15, Releasetrain::setBarred);
        inRange("setBound", 0, 1000, Releasetrain::setBound);
        inRange("setRate", 0, 9999, Releasetrain::setRate);
    }

    private static void stagesAndDays() {
        known("stage's build", Pasts.BUILDS, (store, build) -> store.stage(build, 100, 0));
        inRange("stage's percentage", 1, 100, (store, percentage) -> store.stage(Pasts.STAGED, percentage, 0));
        inRange("stage's step", 0, 100, (store, step) -> store.stage(Pasts.STAGED, 50, step));
        known("percentageOf", Pasts.BUILDS, Releasetrain::percentageOf);
        known("percentageAfter's build", Pasts.BUILDS, (store, build) -> store.percentageAfter(build, 1));
        inRange("percentageAfter's days", 1, 99, (store, days) -> store.percentageAfter(Pasts.STAGED, days));
        inRange("pass", 1, 99, Releasetrain::pass);
    }

    /** A letter has 16 bits: 'a' + 256 is not 'a', and neither is anything up to 65535. */
    private static void lettersToType() {
        checkTaken("type", IllegalArgumentException.class, 'a', (store, letter) -> store.type((char) letter));
        checkTaken("type", IllegalArgumentException.class, 'z', (store, letter) -> store.type((char) letter));
        int[] wrong = {'a' - 1, 'z' + 1, 'A', 'Z', '0', ' ', 0, 'a' + 128, 'a' + 256, 'z' + 256, 0x7FFF, 0xFFFF};
        for (int letter : wrong) {
            Twins.refused("type with " + letter, IllegalArgumentException.class, Pasts::busy,
                    store -> store.type((char) letter));
        }
    }

    private static void starsAndItems() {
        known("rate's device", Pasts.DEVICES, (store, device) -> store.rate(device, 1));
        inRange("rate's stars", 1, 5, (store, stars) -> store.rate(0, stars));
        known("buy's device", Pasts.DEVICES, (store, device) -> store.buy(device, 3));
        inRange("buy's item", 0, 7, (store, item) -> store.buy(1, item));
        known("owns' device", Pasts.DEVICES, (store, device) -> store.owns(device, 0));
        inRange("owns' item", 0, 7, (store, item) -> store.owns(0, item));
        known("canUse's device", Pasts.DEVICES, (store, device) -> store.canUse(device, 0));
        inRange("canUse's item", 0, 7, (store, item) -> store.canUse(0, item));
        // A shift by 32 would wrap round to item 0, which device 0 owns and can use.
        Twins.refused("owns item 32", IllegalArgumentException.class, Pasts::busy, store -> store.owns(0, 32));
        Twins.refused("canUse item 32", IllegalArgumentException.class, Pasts::busy, store -> store.canUse(0, 32));
        Twins.refused("buy item 35", IllegalArgumentException.class, Pasts::busy, store -> store.buy(0, 35));
    }

    private static void devicesThatThereAre() {
        known("couldHave's device", Pasts.DEVICES, (store, device) -> store.couldHave(device, 0));
        known("offered", Pasts.DEVICES, Releasetrain::offered);
        known("update", Pasts.DEVICES, Releasetrain::update);
        known("buildOf", Pasts.DEVICES, Releasetrain::buildOf);
        // What a crash leaves behind when no device has its number, RefusalTest says.
        checkTaken("crash", NoSuchElementException.class, 0, Releasetrain::crash);
        checkTaken("crash", NoSuchElementException.class, Pasts.DEVICES - 1, Releasetrain::crash);
    }

    private static void buildsThatThereAre() {
        known("stateOf", Pasts.BUILDS, Releasetrain::stateOf);
        known("holdOf", Pasts.BUILDS, Releasetrain::holdOf);
        known("couldHave's build", Pasts.BUILDS, (store, build) -> store.couldHave(0, build));
        known("reach", Pasts.BUILDS, Releasetrain::reach);
        known("reachByDevices", Pasts.BUILDS, Releasetrain::reachByDevices);
        known("devicesWith", Pasts.BUILDS, Releasetrain::devicesWith);
        known("installs", Pasts.BUILDS, Releasetrain::installs);
        known("crashRate", Pasts.BUILDS, Releasetrain::crashRate);
        known("rating", Pasts.BUILDS, Releasetrain::rating);
        known("ratingBits", Pasts.BUILDS, Releasetrain::ratingBits);
    }

    private static void buildsThatAreChanged() {
        known("submit", Pasts.BUILDS, Releasetrain::submit);
        known("appeal", Pasts.BUILDS, Releasetrain::appeal);
        known("writeBuild", Pasts.BUILDS, Releasetrain::writeBuild);
    }

    private static void groupsThatThereAre() {
        known("crashesIn", Pasts.GROUPS, Releasetrain::crashesIn);
        known("buildsIn", Pasts.GROUPS, Releasetrain::buildsIn);
        known("stackAt's group", Pasts.GROUPS, (store, group) -> store.stackAt(group, 0));
        known("likeness' first group", Pasts.GROUPS, (store, group) -> store.likeness(group, 0));
        known("likeness' other group", Pasts.GROUPS, (store, group) -> store.likeness(0, group));
    }

    private static void placesAndIndexes() {
        checkEnds("stackAt's place in three letters", IndexOutOfBoundsException.class, 0, 2,
                (store, place) -> store.stackAt(0, place));
        checkEnds("stackAt's place in one letter", IndexOutOfBoundsException.class, 0, 0,
                (store, place) -> store.stackAt(1, place));
        int length = "v80 app held by review".length();
        checkEnds("lineAt", IndexOutOfBoundsException.class, 0, length - 1, Releasetrain::lineAt);
    }
}
