import java.util.NoSuchElementException;

/** Promises 34 to 38: the greatest rate, crash rates, ratings and their bits. */
public final class RatingTest {
    private RatingTest() {
    }

    public static void main(String[] args) {
        setRateSwapsTheRate();
        crashRatesAreFloats();
        ratingsTakeThePlaceOfEarlierOnes();
        ratingsStayWithTheirBuild();
        wrongStarsAreRefused();
        ratingsAreDoubles();
        wrongRatingsAreRefused();
        Checks.finish("RatingTest");
    }

    private static void setRateSwapsTheRate() {
        Releasetrain store = new Releasetrain();
        int before = Float.floatToIntBits(0.5f);
        for (int thousandths = 0; thousandths <= 9999; thousandths++) {
            if (thousandths % 500 == 499) {
                store = new Releasetrain();
                before = Float.floatToIntBits(0.5f);
            }
            Checks.due("bits before setRate(" + thousandths + ")", before, store.setRate(thousandths));
            before = Float.floatToIntBits((float) thousandths / 1000.0f);
        }
        Releasetrain last = store;
        Checks.refused("setRate(-1)", IllegalArgumentException.class, () -> last.setRate(-1));
        Checks.refused("setRate(10000)", IllegalArgumentException.class, () -> last.setRate(10000));
        Checks.due("refused rates are not set", Float.floatToIntBits(9.999f), last.setRate(0));
    }

    private static void crashRatesAreFloats() {
        Releasetrain store = new Releasetrain();
        Stores.rolledOut(store, 10, 100);
        Checks.due("without installs", 0.0f, store.crashRate(0));
        Stores.updatedDevices(store, 3);
        Checks.due("without crashes", 0.0f, store.crashRate(0));
        Stores.crashWith(store, 0, "a");
        Checks.due("one of three", 1.0f / 3.0f, store.crashRate(0));
        Stores.rolledOut(store, 20, 100);
        store.update(0);
        Stores.crashWith(store, 0, "a");
        Checks.due("crashes with another build do not count", 1.0f / 3.0f, store.crashRate(0));
        Checks.due("they count for that one", 1.0f, store.crashRate(1));
        Checks.refused("crashRate(2)", NoSuchElementException.class, () -> store.crashRate(2));
        Checks.refused("crashRate(-1)", NoSuchElementException.class, () -> store.crashRate(-1));
    }

    private static void ratingsTakeThePlaceOfEarlierOnes() {
        Releasetrain store = new Releasetrain();
        Stores.rolledOut(store, 10, 100);
        Stores.updatedDevices(store, 2);
        Checks.due("first rating", 0, store.rate(0, 1));
        Checks.due("second rating", 1, store.rate(0, 5));
        Checks.due("third rating", 5, store.rate(0, 4));
        Checks.due("the rating", 4.0, store.rating(0));
        Checks.due("another device's first", 0, store.rate(1, 1));
        Checks.due("the rating of both", 2.5, store.rating(0));
    }

    private static void ratingsStayWithTheirBuild() {
        Releasetrain store = new Releasetrain();
        Stores.rolledOut(store, 10, 100);
        Stores.updatedDevices(store, 2);
        store.rate(0, 2);
        store.rate(1, 3);
        Stores.rolledOut(store, 20, 100);
        store.update(0);
        Checks.refused("the new build has no ratings", ArithmeticException.class, () -> store.rating(1));
        Checks.due("no earlier rating of the new build", 0, store.rate(0, 5));
        Checks.due("the old build's rating stays", 2.5, store.rating(0));
        Checks.due("the new build's rating", 5.0, store.rating(1));
        Checks.due("the other device's earlier rating", 3, store.rate(1, 4));
        Checks.due("the old build's rating then", 3.0, store.rating(0));
    }

    private static void wrongStarsAreRefused() {
        Releasetrain store = new Releasetrain();
        Stores.rolledOut(store, 10, 100);
        Stores.updatedDevices(store, 1);
        store.addDevice(0, 0, 0);
        store.rate(0, 3);
        int[] wrong = {0, 6, -1, Integer.MAX_VALUE};
        for (int stars : wrong) {
            Checks.refused("rate(0, " + stars + ")", IllegalArgumentException.class, () -> store.rate(0, stars));
        }
        Checks.refused("rate(2, 0)", NoSuchElementException.class, () -> store.rate(2, 0));
        Checks.refused("rate(-1, 1)", NoSuchElementException.class, () -> store.rate(-1, 1));
        Checks.refused("rate without a build", IllegalStateException.class, () -> store.rate(1, 5));
        Checks.refused("wrong stars without a build", IllegalArgumentException.class, () -> store.rate(1, 6));
        Checks.due("refused ratings do not count", 3.0, store.rating(0));
        Checks.due("nor take a place", 3, store.rate(0, 3));
    }

    private static void ratingsAreDoubles() {
        for (int count = 1; count <= 12; count++) {
            Releasetrain store = new Releasetrain();
            Stores.rolledOut(store, 10, 100);
            Stores.updatedDevices(store, count);
            for (int device = 0; device < count; device++) {
                store.rate(device, 1);
            }
            int sum = count;
            dueRating(store, sum, count);
            for (int step = 0; step < 4 * count; step++) {
                store.rate(step % count, 2 + step / count);
                sum++;
                dueRating(store, sum, count);
            }
        }
    }

    private static void dueRating(Releasetrain store, int sum, int count) {
        double due = (double) sum / (double) count;
        Checks.due("rating of " + sum + " stars by " + count, due, store.rating(0));
        Checks.due("bits of " + sum + " stars by " + count, Double.doubleToLongBits(due), store.ratingBits(0));
    }

    private static void wrongRatingsAreRefused() {
        Releasetrain store = new Releasetrain();
        Stores.draft(store, 1);
        Checks.refused("rating without ratings", ArithmeticException.class, () -> store.rating(0));
        Checks.refused("bits without ratings", ArithmeticException.class, () -> store.ratingBits(0));
        int[] wrong = {1, -1};
        for (int build : wrong) {
            Checks.refused("rating(" + build + ")", NoSuchElementException.class, () -> store.rating(build));
            Checks.refused("ratingBits(" + build + ")", NoSuchElementException.class, () -> store.ratingBits(build));
        }
    }
}
