import java.util.NoSuchElementException;
import java.util.function.Supplier;

/** Ways into the states that the tests start from, and a picture of all that a store tells. */
final class Stores {
    static final int EVERY_MODEL = 63;
    static final int EVERY_LANGUAGE = 7;
    static final int EVERY_ITEM = 255;

    private Stores() {
    }

    static int draft(Releasetrain store, int version) {
        return store.addBuild(version, EVERY_MODEL, EVERY_LANGUAGE, 100, 0, EVERY_ITEM);
    }

    /** Needs an empty queue: the build that is added is the one that is reviewed. */
    static int approved(Releasetrain store, int version) {
        return approve(store, draft(store, version));
    }

    static int approvedFix(Releasetrain store, int mended, int version) {
        return approve(store, store.addFix(mended, version, 100, 0));
    }

    static int approve(Releasetrain store, int build) {
        store.submit(build);
        store.review();
        return build;
    }

    static int rolledOut(Releasetrain store, int version, int percentage) {
        int build = approved(store, version);
        store.stage(build, percentage, 0);
        return build;
    }

    static int rolledOutFix(Releasetrain store, int mended, int version, int percentage) {
        int fix = approvedFix(store, mended, version);
        store.stage(fix, percentage, 0);
        return fix;
    }

    /** Devices 0 .. count-1 of model 0 and language 0 with bucket 0, on the newest build. */
    static void updatedDevices(Releasetrain store, int count) {
        for (int i = 0; i < count; i++) {
            store.update(store.addDevice(0, 0, 0));
        }
    }

    static void typeText(Releasetrain store, String text) {
        for (int i = 0; i < text.length(); i++) {
            store.type(text.charAt(i));
        }
    }

    static int crashWith(Releasetrain store, int device, String text) {
        typeText(store, text);
        return store.crash(device);
    }

    static String lineOf(Releasetrain store, int build) {
        int length = store.writeBuild(build);
        String text = writtenLine(store);
        return text.length() == length ? text : "length " + length + " for " + text;
    }

    static String writtenLine(Releasetrain store) {
        StringBuilder text = new StringBuilder();
        try {
            while (true) {
                text.append(store.lineAt(text.length()));
            }
        } catch (IndexOutOfBoundsException end) {
            return text.toString();
        }
    }

    static String stackOf(Releasetrain store, int group) {
        StringBuilder text = new StringBuilder();
        try {
            while (true) {
                text.append(store.stackAt(group, text.length()));
            }
        } catch (IndexOutOfBoundsException end) {
            return text.toString();
        }
    }

    /** All that can be asked without a change; for stores with few devices and builds, to stay under 512 calls. */
    static String pictureOf(Releasetrain store, int devices, int builds) {
        StringBuilder picture = new StringBuilder();
        picture.append(writtenLine(store)).append(" day ").append(store.day());
        picture.append(" next ").append(answer(store::nextInReview));
        picture.append(" worst ").append(answer(store::worstGroup));
        picture.append(" used ").append(answer(store::usedShare));
        for (int device = 0; device < devices; device++) {
            addDeviceTo(picture, store, device);
        }
        for (int build = 0; build < builds; build++) {
            addBuildTo(picture, store, build);
        }
        for (int group = 0; group < store.groups(); group++) {
            picture.append("\ngroup ").append(stackOf(store, group));
            picture.append(' ').append(store.crashesIn(group)).append(' ').append(store.buildsIn(group));
        }
        return picture.append("\nno more devices ").append(answer(() -> store.owns(devices, 0)))
                .append(" nor builds ").append(answer(() -> store.stateOf(builds))).toString();
    }

    private static void addDeviceTo(StringBuilder picture, Releasetrain store, int device) {
        picture.append("\ndevice ").append(answer(() -> store.buildOf(device)));
        picture.append(' ').append(answer(() -> store.offered(device))).append(' ');
        for (int item = 0; item < 8; item++) {
            picture.append(store.owns(device, item) ? 'o' : '.').append(store.canUse(device, item) ? 'u' : '.');
        }
    }

    private static void addBuildTo(StringBuilder picture, Releasetrain store, int build) {
        picture.append("\nbuild ").append(store.stateOf(build)).append(answer(() -> store.holdOf(build)));
        picture.append(' ').append(store.percentageOf(build)).append(' ').append(store.percentageAfter(build, 1));
        picture.append(' ').append(store.reach(build)).append(' ').append(store.devicesWith(build));
        picture.append(' ').append(store.installs(build)).append(' ').append(store.crashRate(build));
        picture.append(' ').append(answer(() -> store.rating(build)));
    }

    private static String answer(Supplier<Object> call) {
        try {
            return call.get().toString();
        } catch (IllegalStateException | ArithmeticException | NoSuchElementException e) {
            return e.getClass().getSimpleName();
        }
    }
}
