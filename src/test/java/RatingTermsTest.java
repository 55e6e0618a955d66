/** The sentences of "Rates and ratings" in the document, each at its edges. */
public final class RatingTermsTest {
    private RatingTermsTest() {
    }

    public static void main(String[] args) {
        installsAreHowOftenItWasInstalled();
        crashRateWithoutInstalls();
        crashRatesAreFloats();
        crashesOfDevicesWhileTheyHadIt();
        starsFromOneToFive();
        earlierRatingOfThisBuildIsReplaced();
        ratingsOfDevicesThatMovedOnStay();
        ratingIsADouble();
        ratesInThousandths();
        Checks.finish("RatingTermsTest");
    }

    private static Releasetrain storeWithDevices(int count) {
        Releasetrain store = new Releasetrain();
        Stores.rolledOut(store, 1, 100);
        Stores.updatedDevices(store, count);
        return store;
    }

    /** "The installs of a build are how often it was installed", not how many devices have it. */
    private static void installsAreHowOftenItWasInstalled() {
        Releasetrain store = storeWithDevices(0);
        Checks.due("none", 0, store.installs(0));
        Stores.updatedDevices(store, 12);
        Checks.due("by all devices", 12, store.installs(0));
        Stores.rolledOut(store, 2, 100);
        for (int device = 0; device < 12; device++) {
            store.update(device);
            Checks.due("devices that have the first", 11 - device, store.devicesWith(0));
            Checks.due("installs of the second", device + 1, store.installs(1));
        }
        Checks.due("installs of the first still", 12, store.installs(0));
        Checks.refused("no update", IllegalStateException.class, () -> store.update(0));
        Checks.due("a refused update installs nothing", 12, store.installs(1));
    }

    /** "or 0.0f without installs" */
    private static void crashRateWithoutInstalls() {
        Releasetrain store = storeWithDevices(0);
        Checks.due("without installs", 0.0f, store.crashRate(0));
        Stores.draft(store, 2);
        Checks.due("of a draft", 0.0f, store.crashRate(1));
        Stores.updatedDevices(store, 1);
        Checks.due("with an install, without crashes", 0.0f, store.crashRate(0));
        Stores.crashWith(store, 0, "a");
        Checks.due("one of one", 1.0f, store.crashRate(0));
    }

    /** "the number of crashes .. divided by its installs, both converted to float" */
    private static void crashRatesAreFloats() {
        for (int installs = 1; installs <= 12; installs++) {
            Releasetrain store = storeWithDevices(installs);
            for (int crashes = 1; crashes <= 15; crashes++) {
                Stores.crashWith(store, crashes % installs, "a");
                Checks.due(crashes + " crashes of " + installs, (float) crashes / (float) installs,
                        store.crashRate(0));
            }
        }
    }

    /** "crashes of devices while they had it" */
    private static void crashesOfDevicesWhileTheyHadIt() {
        Releasetrain store = storeWithDevices(2);
        Stores.crashWith(store, 0, "a");
        Stores.rolledOut(store, 2, 100);
        store.update(0);
        Stores.crashWith(store, 0, "a");
        Stores.crashWith(store, 0, "b");
        Stores.crashWith(store, 1, "b");
        Checks.due("of the first", 1.0f, store.crashRate(0));
        Checks.due("of the second", 2.0f, store.crashRate(1));
    }

    /** "with 1 to 5 stars" */
    private static void starsFromOneToFive() {
        for (int stars = 1; stars <= 5; stars++) {
            Releasetrain store = storeWithDevices(1);
            Checks.due("no earlier rating", 0, store.rate(0, stars));
            Checks.due("rating of " + stars, (double) stars, store.rating(0));
            Checks.due("bits of " + stars, Double.doubleToLongBits(stars), store.ratingBits(0));
            Checks.due("its earlier rating", stars, store.rate(0, 6 - stars));
            Checks.due("rating then", (double) (6 - stars), store.rating(0));
        }
        Releasetrain store = storeWithDevices(1);
        Checks.refused("0 stars", IllegalArgumentException.class, () -> store.rate(0, 0));
        Checks.refused("6 stars", IllegalArgumentException.class, () -> store.rate(0, 6));
        Checks.refused("no rating of them", ArithmeticException.class, () -> store.rating(0));
        Checks.refused("no bits of them", ArithmeticException.class, () -> store.ratingBits(0));
    }

    /** "in place of its earlier rating of this build" */
    private static void earlierRatingOfThisBuildIsReplaced() {
        Releasetrain store = storeWithDevices(2);
        store.rate(1, 5);
        for (int stars = 1; stars <= 5; stars++) {
            Checks.due("stars before", stars - 1, store.rate(0, stars));
            Checks.due("rating of two", (double) (5 + stars) / 2.0, store.rating(0));
        }
        Checks.due("the same stars again", 5, store.rate(0, 5));
        Checks.due("the other device's stars", 5, store.rate(1, 1));
        Checks.due("rating of two at the end", 3.0, store.rating(0));
    }

    private static void ratingsOfDevicesThatMovedOnStay() {
        Releasetrain store = storeWithDevices(2);
        store.rate(0, 2);
        Stores.rolledOut(store, 2, 100);
        store.update(0);
        Checks.due("of the first still", 2.0, store.rating(0));
        Checks.refused("of the second not yet", ArithmeticException.class, () -> store.rating(1));
        Checks.due("no earlier rating of the second", 0, store.rate(0, 5));
        Checks.due("of the first, by the other too", 0, store.rate(1, 5));
        Checks.due("both count", 3.5, store.rating(0));
        Checks.due("of the second", 5.0, store.rating(1));
        store.update(1);
        Checks.due("of the first, with no device left", 3.5, store.rating(0));
    }

    /** "the sum of the stars divided by the number of ratings, both converted to double" */
    private static void ratingIsADouble() {
        for (int count = 1; count <= 12; count++) {
            Releasetrain store = storeWithDevices(count);
            int sum = 0;
            for (int device = 0; device < count; device++) {
                int stars = 1 + (device * 3 + count) % 5;
                store.rate(device, stars);
                sum += stars;
                double due = (double) sum / (double) (device + 1);
                Checks.due("rating of " + sum + " by " + (device + 1), due, store.rating(0));
                Checks.due("its bits", Double.doubleToLongBits(due), store.ratingBits(0));
            }
        }
    }

    /** "this number converted to float, divided by 1000.0f", from 0 to 9999 */
    private static void ratesInThousandths() {
        Releasetrain store = new Releasetrain();
        int[] thousandths = {0, 1, 2, 999, 1000, 1001, 1999, 2000, 4095, 4096, 8191, 8192, 9998, 9999};
        int before = Float.floatToIntBits(0.5f);
        for (int number : thousandths) {
            Checks.due("rate before " + number, before, store.setRate(number));
            before = Float.floatToIntBits((float) number / 1000.0f);
        }
        Checks.refused("rate -1", IllegalArgumentException.class, () -> store.setRate(-1));
        Checks.refused("rate 10000", IllegalArgumentException.class, () -> store.setRate(10000));
        Checks.due("the last one", before, store.setRate(0));
        Checks.due("the least one", 0, store.setRate(0));
    }
}
