/** The sentences of "Stacks and groups" in the document, each at its edges. */
public final class CrashTermsTest {
    private CrashTermsTest() {
    }

    public static void main(String[] args) {
        stacksOfOneToSixLetters();
        everyLetterFromAToZ();
        likenessByPlacesUpToTheFirstMismatch();
        likenessIsDividedByTheLonger();
        likenessesAreFloatsOfEachLength();
        atMostThirtyGroups();
        theMostAlikeGroup();
        theLowestOfSeveral();
        likenessAtLeastTheBound();
        boundsOfZeroAndOne();
        boundIsAHalfAtFirst();
        firstStacksStay();
        typedTextIsEmptiedByEveryCrash();
        crashesWithoutTextOfEveryDevice();
        worstGroupOfMany();
        buildsOfAGroupFromNoneToAll();
        theLastCallsOfAnObject();
        Checks.finish("CrashTermsTest");
    }

    private static Releasetrain storeWithADevice() {
        Releasetrain store = new Releasetrain();
        Stores.rolledOut(store, 1, 100);
        Stores.updatedDevices(store, 1);
        return store;
    }

    /** Groups with these first stacks, whatever they have alike. */
    private static Releasetrain storeWithGroups(String... stacks) {
        Releasetrain store = storeWithADevice();
        store.setBound(1000);
        for (int group = 0; group < stacks.length; group++) {
            Checks.due("group of " + stacks[group], group, Stores.crashWith(store, 0, stacks[group]));
        }
        return store;
    }

    /** "A stack is a text of 1 to 6 letters" */
    private static void stacksOfOneToSixLetters() {
        Releasetrain store = storeWithADevice();
        Checks.refused("no letter", IllegalStateException.class, () -> store.crash(0));
        Checks.due("no group of it", 0, store.groups());
        String letters = "abcdef";
        for (int length = 1; length <= 6; length++) {
            Releasetrain other = storeWithADevice();
            String stack = letters.substring(0, length);
            Checks.due("crash of " + stack, 0, Stores.crashWith(other, 0, stack));
            Checks.due("its stack", stack, Stores.stackOf(other, 0));
            int behind = length;
            Checks.refused("a place behind it", IndexOutOfBoundsException.class, () -> other.stackAt(0, behind));
        }
        for (int length = 1; length <= 6; length++) {
            Checks.due("length typed", length, store.type('a'));
        }
        Checks.refused("a seventh letter", IllegalStateException.class, () -> store.type('a'));
        store.crash(0);
        Checks.due("six letters told", "aaaaaa", Stores.stackOf(store, 0));
    }

    /** "letters from 'a' to 'z'" */
    private static void everyLetterFromAToZ() {
        Releasetrain store = storeWithADevice();
        for (char letter = 'a'; letter <= 'z'; letter++) {
            int group = letter - 'a';
            Checks.due("length of one letter", 1, store.type(letter));
            Checks.due("group of " + letter, group, store.crash(0));
            Checks.due("its letter", letter, store.stackAt(group, 0));
        }
        char[] wrong = {'`', '{', 'A', 'Z', '@', '[', (char) ('a' + 256), (char) ('z' + 256)};
        for (char letter : wrong) {
            Checks.refused("the sign " + (int) letter, IllegalArgumentException.class, () -> store.type(letter));
        }
        Checks.due("they are not typed", 1, store.type('a'));
    }

    private static void dueLikeness(String one, String other, float due) {
        Releasetrain store = storeWithGroups(one, other);
        Checks.due("likeness of " + one + " and " + other, due, store.likeness(0, 1));
        Checks.due("likeness of " + other + " and " + one, due, store.likeness(1, 0));
        Checks.due("likeness of " + one + " and itself", 1.0f, store.likeness(0, 0));
    }

    /** "the number of places from the first one on .. up to the first place at which they do not" */
    private static void likenessByPlacesUpToTheFirstMismatch() {
        dueLikeness("abcdef", "xbcdef", 0.0f);
        dueLikeness("abcdef", "axcdef", 1.0f / 6.0f);
        dueLikeness("abcdef", "abcdxf", 4.0f / 6.0f);
        dueLikeness("abcdef", "abcdex", 5.0f / 6.0f);
        dueLikeness("abcdef", "fedcba", 0.0f);
        dueLikeness("a", "b", 0.0f);
        dueLikeness("aaa", "aba", 1.0f / 3.0f);
    }

    /** "divided by the length of the longer one" */
    private static void likenessIsDividedByTheLonger() {
        dueLikeness("a", "aaaaaa", 1.0f / 6.0f);
        dueLikeness("aaaaa", "aaaaaa", 5.0f / 6.0f);
        dueLikeness("ab", "abx", 2.0f / 3.0f);
        dueLikeness("b", "ab", 0.0f);
        dueLikeness("axc", "abcde", 1.0f / 5.0f);
    }

    /** "both converted to float" */
    private static void likenessesAreFloatsOfEachLength() {
        String letters = "abcdef";
        for (int longer = 2; longer <= 6; longer++) {
            for (int shorter = 1; shorter < longer; shorter++) {
                dueLikeness(letters.substring(0, longer), letters.substring(0, shorter),
                        (float) shorter / (float) longer);
            }
        }
    }

    /** "At most 30 groups of crashes have numbers from 0" */
    private static void atMostThirtyGroups() {
        Releasetrain store = Pasts.fullOfGroups();
        Checks.due("groups", 30, store.groups());
        Checks.due("crashes in the last", 1, store.crashesIn(29));
        Checks.due("stack of the last", "dx", Stores.stackOf(store, 29));
        Checks.refused("there is no group 30", java.util.NoSuchElementException.class, () -> store.crashesIn(30));
        Stores.typeText(store, "ex");
        Checks.refused("a thirty-first", IllegalStateException.class, () -> store.crash(0));
        Checks.due("groups still", 30, store.groups());
        Checks.due("the refused crash counts for no build", 30.0f, store.crashRate(0));
        Checks.due("a crash into the first", 0, Stores.crashWith(store, 0, "a"));
        Checks.due("a crash into the last", 29, Stores.crashWith(store, 0, "dx"));
        store.setBound(500);
        Checks.due("a crash that is alike enough now", 4, Stores.crashWith(store, 0, "ex"));
        Checks.due("groups at the end", 30, store.groups());
    }

    /** "A crash comes into the group whose first stack is most like its stack" */
    private static void theMostAlikeGroup() {
        Releasetrain store = storeWithGroups("abcxyz", "abcdxy", "abcdex", "a");
        store.setBound(500);
        Checks.due("five of six", 2, Stores.crashWith(store, 0, "abcdey"));
        Checks.due("four of six, the lower one", 1, Stores.crashWith(store, 0, "abcdzz"));
        Checks.due("six of six", 0, Stores.crashWith(store, 0, "abcxyz"));
        Checks.due("a half of the single letter", 3, Stores.crashWith(store, 0, "ab"));
    }

    /** "of several the lowest one" */
    private static void theLowestOfSeveral() {
        Releasetrain store = storeWithGroups("qq", "abx", "aby", "abz");
        store.setBound(500);
        Checks.due("two of three, thrice", 1, Stores.crashWith(store, 0, "abw"));
        Checks.due("crashes in the lowest", 2, store.crashesIn(1));
        Checks.due("crashes in the next", 1, store.crashesIn(2));
        store.setBound(0);
        Checks.due("nothing alike to all", 0, Stores.crashWith(store, 0, "z"));
    }

    /** "if this likeness is at least the bound", for each likeness and the thousandths next to it */
    private static void likenessAtLeastTheBound() {
        String letters = "abcdef";
        for (int length = 2; length <= 6; length++) {
            for (int alike = 0; alike <= length; alike++) {
                int thousandths = 1000 * alike / length;
                dueAtBound(letters.substring(0, length), alike, thousandths);
                dueAtBound(letters.substring(0, length), alike, Math.max(0, thousandths - 1));
                dueAtBound(letters.substring(0, length), alike, Math.min(1000, thousandths + 1));
            }
        }
    }

    private static void dueAtBound(String stack, int alike, int thousandths) {
        Releasetrain store = storeWithGroups(stack);
        store.setBound(thousandths);
        String other = stack.substring(0, alike) + "zzzzzz".substring(0, stack.length() - alike);
        boolean enough = (float) alike / (float) stack.length() >= (float) thousandths / 1000.0f;
        Checks.due(other + " for " + stack + " at " + thousandths, enough ? 0 : 1, Stores.crashWith(store, 0, other));
        Checks.due("groups then", enough ? 1 : 2, store.groups());
    }

    /** "the number, 0 to 1000" */
    private static void boundsOfZeroAndOne() {
        Releasetrain store = storeWithADevice();
        store.setBound(0);
        Checks.due("the first crash has no group to come into", 0, Stores.crashWith(store, 0, "a"));
        Checks.due("nothing alike is at least 0", 0, Stores.crashWith(store, 0, "zzzzzz"));
        Checks.due("one group", 1, store.groups());
        store.setBound(1);
        Checks.due("nothing alike is less than a thousandth", 1, Stores.crashWith(store, 0, "zzzzzz"));
        store.setBound(1000);
        Checks.due("all alike is at least 1", 1, Stores.crashWith(store, 0, "zzzzzz"));
        Checks.due("five of six is not", 2, Stores.crashWith(store, 0, "zzzzzy"));
        Checks.due("a letter less is not", 3, Stores.crashWith(store, 0, "zzzzz"));
    }

    /** "the bound, which is 0.5f at first" */
    private static void boundIsAHalfAtFirst() {
        Releasetrain store = storeWithADevice();
        Checks.due("first crash", 0, Stores.crashWith(store, 0, "abcdef"));
        Checks.due("three of six", 0, Stores.crashWith(store, 0, "abcxxx"));
        Checks.due("two of six", 1, Stores.crashWith(store, 0, "abxxxx"));
        Releasetrain other = storeWithADevice();
        Checks.due("first crash", 0, Stores.crashWith(other, 0, "abcde"));
        Checks.due("two of five", 1, Stores.crashWith(other, 0, "abxxx"));
    }

    /** "a group has a first stack": later crashes are compared with it, not with one another. */
    private static void firstStacksStay() {
        Releasetrain store = storeWithADevice();
        Stores.crashWith(store, 0, "abcd");
        Checks.due("half alike", 0, Stores.crashWith(store, 0, "abxx"));
        Checks.due("like the second crash alone", 1, Stores.crashWith(store, 0, "axxx"));
        Checks.due("stack of the first group", "abcd", Stores.stackOf(store, 0));
        Checks.due("stack of the second group", "axxx", Stores.stackOf(store, 1));
    }

    /** "except that crash empties the typed text in any case" */
    private static void typedTextIsEmptiedByEveryCrash() {
        Releasetrain store = storeWithADevice();
        Stores.crashWith(store, 0, "abcdef");
        Checks.due("behind a crash of six letters", 1, store.type('a'));
        store.crash(0);
        Stores.typeText(store, "abcdef");
        Checks.refused("no such device", java.util.NoSuchElementException.class, () -> store.crash(1));
        Checks.due("behind a refused crash of six letters", 1, store.type('b'));
        store.crash(0);
        Checks.due("the letter typed behind it", "b", Stores.stackOf(store, store.groups() - 1));
        store.addDevice(0, 0, 0);
        Stores.typeText(store, "abc");
        Checks.refused("no build", IllegalStateException.class, () -> store.crash(1));
        Checks.refused("nothing typed since", IllegalStateException.class, () -> store.crash(0));
        Checks.due("behind both", 1, store.type('a'));
    }

    /** "if it has no build, the text is empty": each alone and both together */
    private static void crashesWithoutTextOfEveryDevice() {
        Releasetrain store = storeWithADevice();
        store.addDevice(0, 0, 0);
        Checks.refused("a build and no text", IllegalStateException.class, () -> store.crash(0));
        Checks.refused("no build and no text", IllegalStateException.class, () -> store.crash(1));
        store.type('a');
        Checks.refused("no build and a text", IllegalStateException.class, () -> store.crash(1));
        store.type('a');
        Checks.due("a build and a text", 0, store.crash(0));
        Checks.due("one crash counts", 1, store.crashesIn(0));
        Checks.due("one crash counts for the build", 1.0f, store.crashRate(0));
    }

    /** "the group with the most crashes; of several, the lowest one" */
    private static void worstGroupOfMany() {
        Releasetrain none = storeWithADevice();
        Checks.refused("of none", IllegalStateException.class, none::worstGroup);
        Stores.crashWith(none, 0, "a");
        Checks.due("of one", 0, none.worstGroup());
        Releasetrain store = Pasts.fullOfGroups();
        Checks.due("of thirty alike", 0, store.worstGroup());
        Stores.crashWith(store, 0, "dx");
        Checks.due("the last", 29, store.worstGroup());
        Stores.crashWith(store, 0, "b");
        Checks.due("the lower of two", 1, store.worstGroup());
        Stores.crashWith(store, 0, "dx");
        Checks.due("the last again", 29, store.worstGroup());
    }

    /** "the sum of 2 to the power of the number of each build": each once, from build 0 to build 9 */
    private static void buildsOfAGroupFromNoneToAll() {
        Releasetrain store = new Releasetrain();
        store.addDevice(0, 0, 0);
        for (int build = 0; build < 10; build++) {
            Stores.rolledOut(store, build + 1, 100);
            store.update(0);
            Stores.crashWith(store, 0, "a");
            Stores.crashWith(store, 0, "a");
            Checks.due("builds up to " + build, (1 << build + 1) - 1, store.buildsIn(0));
        }
        Stores.crashWith(store, 0, "b");
        Checks.due("build 9 alone", 512, store.buildsIn(1));
    }

    /** "An object is used for at most 512 calls": the last two are answered like all others. */
    private static void theLastCallsOfAnObject() {
        Releasetrain store = storeWithADevice();
        for (int crash = 1; crash <= 252; crash++) {
            store.type('a');
            store.crash(0);
        }
        Checks.due("call 511", 252, store.crashesIn(0));
        Checks.due("call 512", 252.0f, store.crashRate(0));
    }
}
