import java.util.NoSuchElementException;

/** Promises 43 and 44: the line about a build. */
public final class LineTest {
    private LineTest() {
    }

    public static void main(String[] args) {
        linesTellTheState();
        linesTellTheHold();
        linesTakeThePlaceOfTheLineBefore();
        wrongLinesAreRefused();
        Checks.finish("LineTest");
    }

    private static void linesTellTheState() {
        Releasetrain store = new Releasetrain();
        Stores.draft(store, 1);
        store.addFix(0, 22, 300, 0);
        Stores.draft(store, 999);
        Checks.due("draft", "v1 app draft", Stores.lineOf(store, 0));
        Checks.due("draft of a fix", "v22 fix draft", Stores.lineOf(store, 1));
        store.submit(1);
        Checks.due("waiting", "v22 fix waiting", Stores.lineOf(store, 1));
        store.review();
        Checks.due("refused", "v22 fix refused", Stores.lineOf(store, 1));
        store.appeal(1);
        Checks.due("waiting again", "v22 fix waiting", Stores.lineOf(store, 1));
        store.setSize(500);
        store.review();
        Checks.due("approved fix", "v22 fix approved", Stores.lineOf(store, 1));
        Stores.approve(store, 2);
        Checks.due("approved", "v999 app approved", Stores.lineOf(store, 2));
    }

    private static void linesTellTheHold() {
        Releasetrain store = new Releasetrain();
        Stores.rolledOut(store, 10, 100);
        Stores.rolledOutFix(store, 0, 12, 100);
        Stores.updatedDevices(store, 3);
        store.rate(0, 1);
        store.rate(1, 1);
        store.rate(2, 1);
        Checks.due("ratings", "v12 fix held by ratings", Stores.lineOf(store, 1));
        Stores.crashWith(store, 0, "a");
        Stores.crashWith(store, 0, "a");
        Checks.due("crashes", "v12 fix held by crashes", Stores.lineOf(store, 1));
        store.setSize(1);
        Checks.due("review", "v12 fix held by review", Stores.lineOf(store, 1));
        Checks.due("review of an app", "v10 app held by review", Stores.lineOf(store, 0));
        Stores.draft(store, 13);
        Checks.due("only approved builds are held", "v13 app draft", Stores.lineOf(store, 2));
    }

    private static void linesTakeThePlaceOfTheLineBefore() {
        Releasetrain store = new Releasetrain();
        Checks.due("the line at first", "", Stores.writtenLine(store));
        Stores.draft(store, 100);
        Checks.due("length", 14, store.writeBuild(0));
        Stores.approved(store, 2);
        store.setSize(1);
        Checks.due("a longer line", 21, store.writeBuild(1));
        Checks.due("its text", "v2 app held by review", Stores.writtenLine(store));
        Checks.due("a shorter line", 14, store.writeBuild(0));
        Checks.due("its text", "v100 app draft", Stores.writtenLine(store));
        store.submit(0);
        Checks.due("the line stays what it was", "v100 app draft", Stores.writtenLine(store));
        Checks.due("first character", 'v', store.lineAt(0));
        Checks.due("last character", 't', store.lineAt(13));
    }

    private static void wrongLinesAreRefused() {
        Releasetrain store = new Releasetrain();
        Stores.draft(store, 1);
        Checks.refused("lineAt(0) at first", IndexOutOfBoundsException.class, () -> store.lineAt(0));
        store.writeBuild(0);
        int[] wrong = {12, -1, Integer.MAX_VALUE, Integer.MIN_VALUE};
        for (int index : wrong) {
            Checks.refused("lineAt(" + index + ")", IndexOutOfBoundsException.class, () -> store.lineAt(index));
        }
        Checks.refused("writeBuild(1)", NoSuchElementException.class, () -> store.writeBuild(1));
        Checks.refused("writeBuild(-1)", NoSuchElementException.class, () -> store.writeBuild(-1));
        Checks.due("refused calls write nothing", "v1 app draft", Stores.writtenLine(store));
    }
}
