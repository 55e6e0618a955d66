import java.util.NoSuchElementException;

/** Promises 25 to 33: typed stacks, crashes and their groups. */
public final class CrashTest {
    private CrashTest() {
    }

    public static void main(String[] args) {
        typeAppendsUpToSixLetters();
        crashesAlikeComeIntoOneGroup();
        crashesComeIntoTheMostAlikeGroup();
        lowestOfSeveralGroupsIsTaken();
        likenessAtTheBoundIsEnough();
        leastAndGreatestBound();
        crashEmptiesTheTextInAnyCase();
        thirtyFirstGroupIsRefused();
        stacksAreKept();
        likenessesAreFloats();
        setBoundSwapsTheBound();
        worstGroupHasTheMostCrashes();
        buildsOfAGroupAddUp();
        wrongGroupsAreRefused();
        Checks.finish("CrashTest");
    }

    private static Releasetrain storeWithDevices(int count) {
        Releasetrain store = new Releasetrain();
        Stores.rolledOut(store, 10, 100);
        Stores.updatedDevices(store, count);
        return store;
    }

    private static void typeAppendsUpToSixLetters() {
        Releasetrain store = storeWithDevices(1);
        char[] wrong = {'A', '`', '{', ' ', 0, 0xFF, 0xFFFF, '0'};
        for (char letter : wrong) {
            Checks.refused("type(" + (int) letter + ")", IllegalArgumentException.class, () -> store.type(letter));
        }
        String letters = "azmbcd";
        for (int i = 0; i < 6; i++) {
            Checks.due("length of the typed text", i + 1, store.type(letters.charAt(i)));
        }
        Checks.refused("a seventh letter", IllegalStateException.class, () -> store.type('a'));
        Checks.refused("a seventh sign that is no letter", IllegalArgumentException.class, () -> store.type('A'));
        Checks.due("crash with six letters", 0, store.crash(0));
        Checks.due("the stack", letters, Stores.stackOf(store, 0));
        Checks.due("the text is empty again", 1, store.type('a'));
    }

    private static void crashesAlikeComeIntoOneGroup() {
        Releasetrain store = storeWithDevices(2);
        Checks.due("groups at first", 0, store.groups());
        Checks.due("first crash", 0, Stores.crashWith(store, 0, "abc"));
        Checks.due("the same stack", 0, Stores.crashWith(store, 1, "abc"));
        Checks.due("two of three places", 0, Stores.crashWith(store, 0, "abd"));
        Checks.due("one of three places", 1, Stores.crashWith(store, 0, "axc"));
        Checks.due("groups", 2, store.groups());
        Checks.due("crashes in the first", 3, store.crashesIn(0));
        Checks.due("crashes in the second", 1, store.crashesIn(1));
        Checks.due("crash rate", 2.0f, store.crashRate(0));
    }

    private static void crashesComeIntoTheMostAlikeGroup() {
        Releasetrain store = storeWithDevices(1);
        store.setBound(1000);
        Stores.crashWith(store, 0, "abcdef");
        Stores.crashWith(store, 0, "abcd");
        Stores.crashWith(store, 0, "abc");
        store.setBound(500);
        Checks.due("abcde, most like the six letters", 0, Stores.crashWith(store, 0, "abcde"));
        Checks.due("abcd, most like itself", 1, Stores.crashWith(store, 0, "abcd"));
        Checks.due("ab, most like the three letters", 2, Stores.crashWith(store, 0, "ab"));
        Checks.due("abcdxx, four of six twice", 0, Stores.crashWith(store, 0, "abcdxx"));
        Checks.due("abcx, three of four twice", 1, Stores.crashWith(store, 0, "abcx"));
        Checks.due("the first stack stays", "abcdef", Stores.stackOf(store, 0));
    }

    private static void lowestOfSeveralGroupsIsTaken() {
        Releasetrain store = storeWithDevices(1);
        store.setBound(1000);
        Stores.crashWith(store, 0, "zz");
        Stores.crashWith(store, 0, "ab");
        Stores.crashWith(store, 0, "ac");
        store.setBound(500);
        Checks.due("a half alike to both", 1, Stores.crashWith(store, 0, "ad"));
    }

    private static void likenessAtTheBoundIsEnough() {
        Releasetrain store = storeWithDevices(1);
        Stores.crashWith(store, 0, "abcd");
        Checks.due("a half at the bound of a half", 0, Stores.crashWith(store, 0, "abxy"));
        store.setBound(501);
        Checks.due("a half below the bound", 1, Stores.crashWith(store, 0, "abzy"));
        store.setBound(333);
        Checks.due("a third above the bound", 2, Stores.crashWith(store, 0, "mno"));
        Checks.due("a third", 2, Stores.crashWith(store, 0, "mxy"));
        store.setBound(334);
        Checks.due("a third below the bound", 3, Stores.crashWith(store, 0, "mzy"));
        store.setBound(800);
        Stores.crashWith(store, 0, "qrstu");
        Checks.due("four of five at 800 thousandths", 4, Stores.crashWith(store, 0, "qrstx"));
    }

    private static void leastAndGreatestBound() {
        Releasetrain store = storeWithDevices(1);
        store.setBound(0);
        Checks.due("no group yet", 0, Stores.crashWith(store, 0, "a"));
        Checks.due("nothing alike is enough", 0, Stores.crashWith(store, 0, "b"));
        store.setBound(1000);
        Checks.due("all but one alike is not", 1, Stores.crashWith(store, 0, "abcdef"));
        Checks.due("nor this", 2, Stores.crashWith(store, 0, "abcdeg"));
        Checks.due("all alike is", 1, Stores.crashWith(store, 0, "abcdef"));
        store.setBound(0);
        Checks.due("nothing alike comes to the lowest", 0, Stores.crashWith(store, 0, "z"));
    }

    private static void crashEmptiesTheTextInAnyCase() {
        Releasetrain store = storeWithDevices(1);
        store.addDevice(0, 0, 0);
        String before = Stores.pictureOf(store, 2, 1);
        Checks.refused("crash with no text", IllegalStateException.class, () -> store.crash(0));
        int[] wrong = {2, -1};
        for (int device : wrong) {
            Stores.typeText(store, "ab");
            Checks.refused("crash(" + device + ")", NoSuchElementException.class, () -> store.crash(device));
            Checks.due("the text is empty", 1, store.type('a'));
        }
        Checks.refused("crash without a build", IllegalStateException.class, () -> store.crash(1));
        Checks.refused("crash with the text emptied", IllegalStateException.class, () -> store.crash(0));
        Checks.due("all that the store tells", before, Stores.pictureOf(store, 2, 1));
        Stores.crashWith(store, 0, "ab");
        Checks.refused("crash with the text used", IllegalStateException.class, () -> store.crash(0));
    }

    private static void thirtyFirstGroupIsRefused() {
        Releasetrain store = storeWithDevices(1);
        store.setBound(1000);
        for (int i = 0; i < 30; i++) {
            String stack = "" + (char) ('a' + i % 26) + (i < 26 ? "" : "x");
            Checks.due("group of " + stack, i, Stores.crashWith(store, 0, stack));
        }
        String before = Stores.pictureOf(store, 1, 1);
        Stores.typeText(store, "xyz");
        Checks.refused("a group too many", IllegalStateException.class, () -> store.crash(0));
        Checks.due("the text is empty", 1, store.type('a'));
        Checks.due("the crash is told nowhere", before, Stores.pictureOf(store, 1, 1));
        Checks.due("a crash into a group that there is", 0, store.crash(0));
        Checks.due("groups", 30, store.groups());
    }

    private static void stacksAreKept() {
        Releasetrain store = storeWithDevices(1);
        Stores.crashWith(store, 0, "qwe");
        Stores.crashWith(store, 0, "zxcvbn");
        Stores.typeText(store, "mmm");
        Checks.due("first letter", 'q', store.stackAt(0, 0));
        Checks.due("last letter", 'e', store.stackAt(0, 2));
        Checks.due("sixth letter", 'n', store.stackAt(1, 5));
        int[][] wrong = {{0, 3}, {0, -1}, {1, 6}, {0, Integer.MAX_VALUE}, {0, Integer.MIN_VALUE}};
        for (int[] w : wrong) {
            Checks.refused("stackAt(" + w[0] + ", " + w[1] + ")", IndexOutOfBoundsException.class,
                    () -> store.stackAt(w[0], w[1]));
        }
        Checks.refused("stackAt(2, 9)", NoSuchElementException.class, () -> store.stackAt(2, 9));
    }

    private static void likenessesAreFloats() {
        Releasetrain store = storeWithDevices(1);
        store.setBound(1000);
        String[] stacks = {"abc", "a", "abcde", "xbc", "abx", "ab"};
        for (String stack : stacks) {
            Stores.crashWith(store, 0, stack);
        }
        Checks.due("with itself", 1.0f, store.likeness(2, 2));
        Checks.due("abc and a", 1.0f / 3.0f, store.likeness(0, 1));
        Checks.due("a and abc", 1.0f / 3.0f, store.likeness(1, 0));
        Checks.due("abc and abcde", 3.0f / 5.0f, store.likeness(0, 2));
        Checks.due("abc and xbc", 0.0f, store.likeness(0, 3));
        Checks.due("abc and abx", 2.0f / 3.0f, store.likeness(0, 4));
        Checks.due("ab and abcde", 2.0f / 5.0f, store.likeness(5, 2));
        int[][] wrong = {{6, 0}, {0, 6}, {-1, 0}, {0, -1}};
        for (int[] w : wrong) {
            Checks.refused("likeness(" + w[0] + ", " + w[1] + ")", NoSuchElementException.class,
                    () -> store.likeness(w[0], w[1]));
        }
    }

    private static void setBoundSwapsTheBound() {
        int before = Float.floatToIntBits(0.5f);
        Releasetrain store = new Releasetrain();
        for (int thousandths = 0; thousandths <= 1000; thousandths++) {
            if (thousandths % 500 == 499) {
                store = new Releasetrain();
                before = Float.floatToIntBits(0.5f);
            }
            Checks.due("bits before setBound(" + thousandths + ")", before, store.setBound(thousandths));
            before = Float.floatToIntBits((float) thousandths / 1000.0f);
        }
        Releasetrain last = store;
        Checks.refused("setBound(-1)", IllegalArgumentException.class, () -> last.setBound(-1));
        Checks.refused("setBound(1001)", IllegalArgumentException.class, () -> last.setBound(1001));
        Checks.due("refused bounds are not set", Float.floatToIntBits(1.0f), last.setBound(0));
    }

    private static void worstGroupHasTheMostCrashes() {
        Releasetrain store = storeWithDevices(1);
        Checks.refused("worst of none", IllegalStateException.class, store::worstGroup);
        Stores.crashWith(store, 0, "a");
        Stores.crashWith(store, 0, "b");
        Stores.crashWith(store, 0, "c");
        Checks.due("the lowest of three", 0, store.worstGroup());
        Stores.crashWith(store, 0, "c");
        Checks.due("the last", 2, store.worstGroup());
        Stores.crashWith(store, 0, "b");
        Checks.due("the lower of two", 1, store.worstGroup());
    }

    private static void buildsOfAGroupAddUp() {
        Releasetrain store = storeWithDevices(2);
        Stores.crashWith(store, 0, "a");
        Stores.crashWith(store, 0, "a");
        Checks.due("the first build", 1, store.buildsIn(0));
        Stores.draft(store, 15);
        Stores.rolledOut(store, 20, 100);
        store.update(0);
        Stores.crashWith(store, 0, "a");
        Stores.crashWith(store, 0, "b");
        Checks.due("the first and the third", 5, store.buildsIn(0));
        Checks.due("the third", 4, store.buildsIn(1));
        Checks.due("crash rate of the first", 1.0f, store.crashRate(0));
        Checks.due("crash rate of the third", 2.0f, store.crashRate(2));
        Stores.crashWith(store, 1, "b");
        Checks.due("the third and the first", 5, store.buildsIn(1));
    }

    private static void wrongGroupsAreRefused() {
        Releasetrain store = storeWithDevices(1);
        Stores.crashWith(store, 0, "a");
        int[] wrong = {1, -1, 30};
        for (int group : wrong) {
            Checks.refused("crashesIn(" + group + ")", NoSuchElementException.class, () -> store.crashesIn(group));
            Checks.refused("buildsIn(" + group + ")", NoSuchElementException.class, () -> store.buildsIn(group));
            Checks.refused("stackAt(" + group + ", 0)", NoSuchElementException.class, () -> store.stackAt(group, 0));
        }
    }
}
