import java.util.NoSuchElementException;
import java.util.function.Consumer;
import java.util.function.Supplier;

/**
 * Every reason for which the state of a store makes a call throw, and which exception goes first where
 * several apply. A call that throws changes nothing, crash aside, which empties the typed text in any case.
 */
public final class RefusalTest {
    private RefusalTest() {
    }

    public static void main(String[] args) {
        nothingMoreIsAddedWhenFull();
        versionsAreTakenByAnyBuild();
        statesForbidReviewsAndStages();
        nothingWaits();
        daysEnd();
        devicesWithoutABuild();
        nothingToGive();
        nothingToTell();
        nothingToSell();
        crashesAreRefusedWithTheTextEmptied();
        argumentsGoAheadOfStates();
        unknownNumbersGoAheadOfAll();
        laterReasonsInTheirOrder();
        newStoresRefuse();
        Checks.finish("RefusalTest");
    }

    private static void illegalState(String what, Supplier<Releasetrain> past, Consumer<Releasetrain> call) {
        Twins.refused(what, IllegalStateException.class, past, call);
    }

    private static void illegalArgument(String what, Supplier<Releasetrain> past, Consumer<Releasetrain> call) {
        Twins.refused(what, IllegalArgumentException.class, past, call);
    }

    private static void noSuch(String what, Supplier<Releasetrain> past, Consumer<Releasetrain> call) {
        Twins.refused(what, NoSuchElementException.class, past, call);
    }

    private static void nothingMoreIsAddedWhenFull() {
        illegalState("a thirteenth device", Pasts::fullOfDevices, store -> store.addDevice(0, 0, 0));
        illegalState("an eleventh build", Pasts::fullOfBuilds, store -> store.addBuild(500, 1, 1, 1, 0, 0));
        illegalState("an eleventh build that is a fix", Pasts::fullOfBuilds, store -> store.addFix(9, 500, 1, 0));
        illegalState("a seventh letter", Pasts::fullText, store -> store.type('a'));
    }

    private static void versionsAreTakenByAnyBuild() {
        int[] versions = {10, 20, 30, 40, 50, 60, 70, 75, 80};
        for (int version : versions) {
            illegalState("an app of the version " + version, Pasts::busy,
                    store -> store.addBuild(version, 1, 1, 1, 0, 0));
            illegalState("a fix of the version " + version, Pasts::busy, store -> store.addFix(2, version, 1, 0));
        }
        illegalState("an eleventh build of a version that is taken", Pasts::fullOfBuilds,
                store -> store.addBuild(1, 1, 1, 1, 0, 0));
    }

    private static void statesForbidReviewsAndStages() {
        int[] noDrafts = {Pasts.STAGED, Pasts.UNSTAGED_FIX, Pasts.WAITING, Pasts.WAITING_FIX, Pasts.REFUSED,
            Pasts.REFUSED_TWICE, Pasts.APPEALED, Pasts.HELD};
        for (int build : noDrafts) {
            illegalState("submit of " + build, Pasts::busy, store -> store.submit(build));
        }
        int[] noAppeals = {Pasts.STAGED, Pasts.UNSTAGED_FIX, Pasts.DRAFT, Pasts.WAITING, Pasts.WAITING_FIX,
            Pasts.REFUSED_TWICE, Pasts.APPEALED, Pasts.HELD};
        for (int build : noAppeals) {
            illegalState("appeal of " + build, Pasts::busy, store -> store.appeal(build));
        }
        int[] notApproved = {Pasts.DRAFT, Pasts.WAITING, Pasts.WAITING_FIX, Pasts.REFUSED, Pasts.REFUSED_TWICE,
            Pasts.APPEALED};
        for (int build : notApproved) {
            illegalState("stage of " + build, Pasts::busy, store -> store.stage(build, 100, 0));
            illegalState("hold of " + build, Pasts::busy, store -> store.holdOf(build));
        }
    }

    private static void nothingWaits() {
        illegalState("nextInReview among drafts", Pasts::fullOfBuilds, Releasetrain::nextInReview);
        illegalState("review among drafts", Pasts::fullOfBuilds, Releasetrain::review);
        illegalState("nextInReview behind all reviews", Pasts::fullOfGroups, Releasetrain::nextInReview);
        illegalState("review behind all reviews", Pasts::fullOfGroups, Releasetrain::review);
    }

    private static void daysEnd() {
        illegalState("the day 1000, a day on", Pasts::lastDay, store -> store.pass(1));
        illegalState("the day 1098", Pasts::lastDay, store -> store.pass(99));
        illegalState("the day 1000, ten days on", Pasts::nineDaysBeforeTheLast, store -> store.pass(10));
        Releasetrain store = Pasts.nineDaysBeforeTheLast();
        Checks.due("the day 999", 999, store.pass(9));
        Checks.due("nine days of a step of 1", 10, store.percentageOf(0));
    }

    private static void devicesWithoutABuild() {
        illegalState("buildOf", Pasts::busy, store -> store.buildOf(2));
        illegalState("rate", Pasts::busy, store -> store.rate(2, 1));
        illegalState("buy", Pasts::busy, store -> store.buy(2, 0));
    }

    private static void nothingToGive() {
        illegalState("offered to a device without a build", Pasts::busy, store -> store.offered(2));
        illegalState("update of a device without a build", Pasts::busy, store -> store.update(2));
        illegalState("offered to a device that has the greatest", Pasts::busy, store -> store.offered(0));
        illegalState("update of a device that has the greatest", Pasts::busy, store -> store.update(0));
    }

    private static void nothingToTell() {
        Twins.refused("rating without ratings", ArithmeticException.class, Pasts::busy, store -> store.rating(1));
        Twins.refused("bits without ratings", ArithmeticException.class, Pasts::busy, store -> store.ratingBits(1));
        Twins.refused("share of no items", ArithmeticException.class, Pasts::fullOfGroups, Releasetrain::usedShare);
        illegalState("the worst of no groups", Pasts::fullOfDevices, Releasetrain::worstGroup);
        Twins.refused("the first character of the empty line", IndexOutOfBoundsException.class,
                Pasts::fullOfDevices, store -> store.lineAt(0));
    }

    private static void nothingToSell() {
        illegalState("an item that it owns", Pasts::busy, store -> store.buy(0, 0));
        Twins.refused("an item that is not sold", UnsupportedOperationException.class, Pasts::busy,
                store -> store.buy(0, 1));
        Twins.refused("the percentage less by one", UnsupportedOperationException.class, Pasts::busy,
                store -> store.stage(Pasts.STAGED, 39, 0));
        Twins.refused("the percentage of a held build less by one", UnsupportedOperationException.class,
                Pasts::busy, store -> store.stage(Pasts.HELD, 59, 0));
    }

    private static void crashRefused(String what, Class<? extends RuntimeException> due, int device) {
        Twins.refusedLeaving(what, due, Pasts::busy, Pasts::busyWithoutText, store -> store.crash(device));
    }

    private static void crashesAreRefusedWithTheTextEmptied() {
        int[] unknown = {-1, Pasts.DEVICES, 256, 65536, Integer.MIN_VALUE, Integer.MAX_VALUE};
        for (int device : unknown) {
            crashRefused("crash of device " + device, NoSuchElementException.class, device);
        }
        crashRefused("crash without a build", IllegalStateException.class, 2);
        Twins.refusedLeaving("a thirty-first group", IllegalStateException.class, Pasts::fullOfGroupsTyped,
                Pasts::fullOfGroups, store -> store.crash(0));
        illegalState("crash with no text", Pasts::busyWithoutText, store -> store.crash(0));
        illegalState("crash with no text, of a device without a build", Pasts::busyWithoutText,
                store -> store.crash(2));
        noSuch("crash with no text, of no device", Pasts::busyWithoutText, store -> store.crash(3));
        illegalState("crash with no text, all groups full", Pasts::fullOfGroups, store -> store.crash(0));
    }

    private static void argumentsGoAheadOfStates() {
        illegalArgument("a thirteenth device of no model", Pasts::fullOfDevices, store -> store.addDevice(6, 0, 0));
        illegalArgument("a thirteenth device of no language", Pasts::fullOfDevices, store -> store.addDevice(0, 3, 0));
        illegalArgument("a thirteenth device of no bucket", Pasts::fullOfDevices, store -> store.addDevice(0, 0, 100));
        int[][] builds = {{0, 1, 1, 1, 0, 0}, {500, 0, 1, 1, 0, 0}, {500, 1, 8, 1, 0, 0}, {500, 1, 1, 501, 0, 0},
            {500, 1, 1, 1, 16, 0}, {500, 1, 1, 1, 0, 256}, {1, 64, 1, 1, 0, 0}, {1, 1, 0, 1, 0, 0},
            {1, 1, 1, 0, 0, 0}, {1, 1, 1, 1, -1, 0}, {1, 1, 1, 1, 0, -1}};
        for (int[] b : builds) {
            illegalArgument("an eleventh build of " + java.util.Arrays.toString(b), Pasts::fullOfBuilds,
                    store -> store.addBuild(b[0], b[1], b[2], b[3], b[4], b[5]));
        }
        int[][] fixes = {{0, 1, 0}, {1000, 1, 0}, {500, 0, 0}, {500, 501, 0}, {500, 1, 16}, {1, 1, -1}, {1, 0, 0}};
        for (int[] f : fixes) {
            illegalArgument("an eleventh build, a fix of " + java.util.Arrays.toString(f), Pasts::fullOfBuilds,
                    store -> store.addFix(0, f[0], f[1], f[2]));
        }
        illegalArgument("an app of a version taken and no size", Pasts::busy,
                store -> store.addBuild(10, 1, 1, 0, 0, 0));
        illegalArgument("a fix of a version taken and no size", Pasts::busy, store -> store.addFix(0, 10, 0, 0));
        illegalArgument("stage of a draft at 0 percent", Pasts::busy, store -> store.stage(Pasts.DRAFT, 0, 0));
        illegalArgument("stage of a draft by a step of 101", Pasts::busy, store -> store.stage(Pasts.DRAFT, 1, 101));
        illegalArgument("too many days behind the last", Pasts::lastDay, store -> store.pass(100));
        illegalArgument("no days behind the last", Pasts::lastDay, store -> store.pass(0));
        illegalArgument("a seventh sign that is no letter", Pasts::fullText, store -> store.type('A'));
        illegalArgument("six stars without a build", Pasts::busy, store -> store.rate(2, 6));
        illegalArgument("no stars without a build", Pasts::busy, store -> store.rate(2, 0));
        illegalArgument("item 8 without a build", Pasts::busy, store -> store.buy(2, 8));
        illegalArgument("item -1 without a build", Pasts::busy, store -> store.buy(2, -1));
    }

    private static void unknownNumbersGoAheadOfAll() {
        int none = Pasts.BUILDS;
        noSuch("a fix of no build and of no version", Pasts::busy, store -> store.addFix(none, 0, 1, 0));
        noSuch("a fix of no build and of no size", Pasts::busy, store -> store.addFix(none, 500, 501, 0));
        noSuch("a fix of no build and of a version taken", Pasts::busy, store -> store.addFix(none, 10, 1, 0));
        noSuch("an eleventh build that mends none", Pasts::fullOfBuilds, store -> store.addFix(10, 500, 1, 0));
        noSuch("stage of no build at 0 percent", Pasts::busy, store -> store.stage(none, 0, 0));
        noSuch("stage of no build by a step of 101", Pasts::busy, store -> store.stage(none, 1, 101));
        noSuch("no build after no days", Pasts::busy, store -> store.percentageAfter(none, 0));
        noSuch("no build after 100 days", Pasts::busy, store -> store.percentageAfter(none, 100));
        noSuch("no device and no build", Pasts::busy, store -> store.couldHave(Pasts.DEVICES, none));
        noSuch("no group and no place", Pasts::busy, store -> store.stackAt(Pasts.GROUPS, -1));
        noSuch("no groups both", Pasts::busy, store -> store.likeness(Pasts.GROUPS, Pasts.GROUPS));
        noSuch("six stars of no device", Pasts::busy, store -> store.rate(Pasts.DEVICES, 6));
        noSuch("item 8 bought by no device", Pasts::busy, store -> store.buy(Pasts.DEVICES, 8));
        noSuch("item 8 owned by no device", Pasts::busy, store -> store.owns(Pasts.DEVICES, 8));
        noSuch("item 8 used by no device", Pasts::busy, store -> store.canUse(Pasts.DEVICES, 8));
    }

    private static void laterReasonsInTheirOrder() {
        illegalArgument("stage below, by a step of 101", Pasts::busy, store -> store.stage(Pasts.STAGED, 1, 101));
        illegalArgument("stage below 1", Pasts::busy, store -> store.stage(Pasts.STAGED, 0, 0));
        illegalState("an item owned and not sold now", Pasts::ownedAndNotSoldNow, store -> store.buy(0, 0));
    }

    private static void newStoresRefuse() {
        noSuch("addFix", Pasts::empty, store -> store.addFix(0, 500, 1, 0));
        noSuch("submit", Pasts::empty, store -> store.submit(0));
        noSuch("appeal", Pasts::empty, store -> store.appeal(0));
        noSuch("stateOf", Pasts::empty, store -> store.stateOf(0));
        noSuch("stage", Pasts::empty, store -> store.stage(0, 1, 0));
        noSuch("percentageOf", Pasts::empty, store -> store.percentageOf(0));
        noSuch("percentageAfter", Pasts::empty, store -> store.percentageAfter(0, 1));
        noSuch("holdOf", Pasts::empty, store -> store.holdOf(0));
        noSuch("couldHave", Pasts::empty, store -> store.couldHave(0, 0));
        noSuch("reach", Pasts::empty, store -> store.reach(0));
        noSuch("reachByDevices", Pasts::empty, store -> store.reachByDevices(0));
        noSuch("offered", Pasts::empty, store -> store.offered(0));
        noSuch("update", Pasts::empty, store -> store.update(0));
        noSuch("buildOf", Pasts::empty, store -> store.buildOf(0));
        noSuch("devicesWith", Pasts::empty, store -> store.devicesWith(0));
        noSuch("installs", Pasts::empty, store -> store.installs(0));
        noSuch("crash", Pasts::empty, store -> store.crash(0));
        noSuch("crashesIn", Pasts::empty, store -> store.crashesIn(0));
        noSuch("stackAt", Pasts::empty, store -> store.stackAt(0, 0));
        noSuch("likeness", Pasts::empty, store -> store.likeness(0, 0));
        noSuch("buildsIn", Pasts::empty, store -> store.buildsIn(0));
        noSuch("crashRate", Pasts::empty, store -> store.crashRate(0));
        noSuch("rate", Pasts::empty, store -> store.rate(0, 1));
        noSuch("rating", Pasts::empty, store -> store.rating(0));
        noSuch("ratingBits", Pasts::empty, store -> store.ratingBits(0));
        noSuch("buy", Pasts::empty, store -> store.buy(0, 0));
        noSuch("owns", Pasts::empty, store -> store.owns(0, 0));
        noSuch("canUse", Pasts::empty, store -> store.canUse(0, 0));
        noSuch("writeBuild", Pasts::empty, store -> store.writeBuild(0));
        illegalState("nextInReview", Pasts::empty, Releasetrain::nextInReview);
        illegalState("review", Pasts::empty, Releasetrain::review);
        illegalState("worstGroup", Pasts::empty, Releasetrain::worstGroup);
        Twins.refused("lineAt", IndexOutOfBoundsException.class, Pasts::empty, store -> store.lineAt(0));
        Twins.refused("usedShare", ArithmeticException.class, Pasts::empty, Releasetrain::usedShare);
    }
}
