import java.util.ArrayList;
import java.util.Arrays;
import java.util.HashMap;
import java.util.LinkedHashMap;
import java.util.List;
import java.util.Map;
import java.util.NoSuchElementException;
import java.util.TreeSet;

/**
 * The promises once more, told in another way than the class tells them: it keeps logs of what
 * happened and works out each answer from them, with the Java library's help.
 */
final class Model {
    private record Phone(int model, int language, int bucket) {
    }

    private record App(int version, int models, int languages, int size, int permissions, int items, int mends) {
    }

    private record Install(int device, int build) {
    }

    private record Crash(int build, int group) {
    }

    private final List<Phone> phones = new ArrayList<>();
    private final List<App> apps = new ArrayList<>();
    private final List<String> stacks = new ArrayList<>();
    private final List<Integer> waitingFixes = new ArrayList<>();
    private final List<Integer> waitingOthers = new ArrayList<>();
    private final TreeSet<Integer> submitted = new TreeSet<>();
    private final TreeSet<Integer> appealed = new TreeSet<>();
    private final TreeSet<Integer> approved = new TreeSet<>();
    private final Map<Integer, Integer> percentages = new HashMap<>();
    private final Map<Integer, Integer> steps = new HashMap<>();
    private final List<Install> installLog = new ArrayList<>();
    private final List<Crash> crashLog = new ArrayList<>();
    private final Map<Install, Integer> stars = new LinkedHashMap<>();
    private final TreeSet<Integer> purchases = new TreeSet<>();
    private String typed = "";
    private String line = "";
    private int greatestSize = 200;
    private int barred = 0;
    private float bound = 0.5f;
    private float greatestRate = 0.5f;
    private int days = 0;

    public int addDevice(int model, int language, int bucket) {
        range(model, 0, 5);
        range(language, 0, 2);
        range(bucket, 0, 99);
        allow(phones.size() < 12);
        phones.add(new Phone(model, language, bucket));
        return phones.size() - 1;
    }

    public int addBuild(int version, int models, int languages, int size, int permissions, int items) {
        range(models, 1, 63);
        range(languages, 1, 7);
        range(items, 0, 255);
        return add(new App(version, models, languages, size, permissions, items, -1));
    }

    public int addFix(int build, int version, int size, int permissions) {
        App mended = app(build);
        return add(new App(version, mended.models, mended.languages, size, permissions, mended.items, build));
    }

    private int add(App app) {
        range(app.version, 1, 999);
        range(app.size, 1, 500);
        range(app.permissions, 0, 15);
        allow(apps.stream().noneMatch(other -> other.version == app.version));
        allow(apps.size() < 10);
        apps.add(app);
        return apps.size() - 1;
    }

    public int submit(int build) {
        App app = app(build);
        allow(submitted.add(build));
        (app.mends >= 0 ? waitingFixes : waitingOthers).add(build);
        return waitingFixes.size() + waitingOthers.size();
    }

    public int nextInReview() {
        List<Integer> queue = queue();
        return queue.get(0);
    }

    public char review() {
        int build = queue().remove(0);
        char rule = rule(apps.get(build));
        if (rule == '-') {
            approved.add(build);
        }
        return rule;
    }

    private List<Integer> queue() {
        List<Integer> queue = waitingFixes.isEmpty() ? waitingOthers : waitingFixes;
        allow(!queue.isEmpty());
        return queue;
    }

    private char rule(App app) {
        return app.size > greatestSize ? 's' : (app.permissions & barred) > 0 ? 'p' : '-';
    }

    public int appeal(int build) {
        allow(stateOf(build) == 'r' && appealed.add(build));
        submitted.remove(build);
        return submit(build);
    }

    public int setSize(int size) {
        range(size, 1, 500);
        int before = greatestSize;
        greatestSize = size;
        return before;
    }

    public int setBarred(int permissions) {
        range(permissions, 0, 15);
        int before = barred;
        barred = permissions;
        return before;
    }

    public char stateOf(int build) {
        app(build);
        if (!submitted.contains(build)) {
            return 'd';
        }
        if (waitingFixes.contains(build) || waitingOthers.contains(build)) {
            return 'w';
        }
        return approved.contains(build) ? 'a' : 'r';
    }

    public int stage(int build, int percentage, int step) {
        app(build);
        range(percentage, 1, 100);
        range(step, 0, 100);
        allow(approved.contains(build));
        int before = percentageOf(build);
        if (percentage < before) {
            throw new UnsupportedOperationException();
        }
        percentages.put(build, percentage);
        steps.put(build, step);
        return before;
    }

    public int percentageOf(int build) {
        app(build);
        return percentages.getOrDefault(build, 0);
    }

    public int percentageAfter(int build, int days) {
        int percentage = percentageOf(build);
        range(days, 1, 99);
        for (int day = 0; day < days; day++) {
            percentage = nextDay(build, percentage);
        }
        return percentage;
    }

    private int nextDay(int build, int percentage) {
        return percentage == 0 || holdOf(build) != '-' ? percentage : Math.min(100, percentage + steps.get(build));
    }

    public int pass(int days) {
        range(days, 1, 99);
        allow(this.days + days < 1000);
        for (int day = 0; day < days; day++) {
            percentages.replaceAll(this::nextDay);
        }
        this.days += days;
        return this.days;
    }

    public char holdOf(int build) {
        App app = app(build);
        allow(approved.contains(build));
        if (rule(app) != '-') {
            return 'v';
        }
        if (installs(build) > 2 && crashRate(build) > greatestRate) {
            return 'c';
        }
        return ratingsOf(build).size() > 2 && rating(build) < 2.5 ? 't' : '-';
    }

    public boolean couldHave(int device, int build) {
        Phone phone = phone(device);
        App app = app(build);
        if (percentageOf(build) == 0 || holdOf(build) != '-') {
            return false;
        }
        boolean isFor = (app.models & 1 << phone.model) != 0 && (app.languages & 1 << phone.language) != 0;
        return isFor && (phone.bucket < percentageOf(build) || app.mends >= 0 && app.mends == current(device));
    }

    public int reach(int build) {
        app(build);
        int reached = 0;
        for (int device = 0; device < phones.size(); device++) {
            reached += couldHave(device, build) ? 1 : 0;
        }
        return reached;
    }

    public int reachByDevices(int build) {
        return reach(build);
    }

    public int offered(int device) {
        phone(device);
        int current = current(device);
        int least = current < 0 ? 0 : apps.get(current).version;
        List<Integer> choice = new ArrayList<>();
        for (int build = 0; build < apps.size(); build++) {
            if (apps.get(build).version > least && couldHave(device, build)) {
                choice.add(build);
            }
        }
        // A fix counts 1000 more than any version, so the last one is the one that is given.
        choice.sort((a, b) -> Integer.compare(weight(a), weight(b)));
        allow(!choice.isEmpty());
        return choice.get(choice.size() - 1);
    }

    private int weight(int build) {
        return apps.get(build).version + (apps.get(build).mends >= 0 ? 1000 : 0);
    }

    public int update(int device) {
        int given = offered(device);
        installLog.add(new Install(device, given));
        return given;
    }

    /** The build that the device was given last, or -1. */
    private int current(int device) {
        int current = -1;
        for (Install install : installLog) {
            if (install.device == device) {
                current = install.build;
            }
        }
        return current;
    }

    public int buildOf(int device) {
        phone(device);
        allow(current(device) >= 0);
        return current(device);
    }

    public int devicesWith(int build) {
        app(build);
        int with = 0;
        for (int device = 0; device < phones.size(); device++) {
            with += current(device) == build ? 1 : 0;
        }
        return with;
    }

    public int installs(int build) {
        app(build);
        return (int) installLog.stream().filter(install -> install.build == build).count();
    }

    public int type(char letter) {
        range(letter, 'a', 'z');
        allow(typed.length() < 6);
        typed += letter;
        return typed.length();
    }

    public int crash(int device) {
        String stack = typed;
        typed = "";
        int build = buildOf(device);
        allow(!stack.isEmpty());
        int group = -1;
        for (int other = stacks.size() - 1; other >= 0; other--) {
            if (group < 0 || alike(stacks.get(other), stack) >= alike(stacks.get(group), stack)) {
                group = other;
            }
        }
        if (group < 0 || alike(stacks.get(group), stack) < bound) {
            allow(stacks.size() < 30);
            group = stacks.size();
            stacks.add(stack);
        }
        crashLog.add(new Crash(build, group));
        return group;
    }

    private static float alike(String one, String other) {
        int mismatch = Arrays.mismatch(one.toCharArray(), other.toCharArray());
        int places = mismatch < 0 ? one.length() : mismatch;
        return (float) places / (float) Math.max(one.length(), other.length());
    }

    public int groups() {
        return stacks.size();
    }

    public int crashesIn(int group) {
        stack(group);
        return (int) crashLog.stream().filter(crash -> crash.group == group).count();
    }

    public char stackAt(int group, int place) {
        String stack = stack(group);
        if (place < 0 || place >= stack.length()) {
            throw new IndexOutOfBoundsException();
        }
        return stack.charAt(place);
    }

    public float likeness(int group, int other) {
        return alike(stack(group), stack(other));
    }

    public int setBound(int thousandths) {
        range(thousandths, 0, 1000);
        int before = Float.floatToIntBits(bound);
        bound = (float) thousandths / 1000.0f;
        return before;
    }

    public int worstGroup() {
        allow(!stacks.isEmpty());
        int worst = 0;
        for (int group = 1; group < stacks.size(); group++) {
            worst = crashesIn(group) > crashesIn(worst) ? group : worst;
        }
        return worst;
    }

    public int buildsIn(int group) {
        stack(group);
        TreeSet<Integer> builds = new TreeSet<>();
        crashLog.stream().filter(crash -> crash.group == group).forEach(crash -> builds.add(crash.build));
        int sum = 0;
        for (int build : builds) {
            sum += (int) Math.pow(2, build);
        }
        return sum;
    }

    public int setRate(int thousandths) {
        range(thousandths, 0, 9999);
        int before = Float.floatToIntBits(greatestRate);
        greatestRate = (float) thousandths / 1000.0f;
        return before;
    }

    public float crashRate(int build) {
        int installs = installs(build);
        int crashes = (int) crashLog.stream().filter(crash -> crash.build == build).count();
        return installs == 0 ? 0.0f : (float) crashes / (float) installs;
    }

    public int rate(int device, int stars) {
        phone(device);
        range(stars, 1, 5);
        Integer before = this.stars.put(new Install(device, buildOf(device)), stars);
        return before == null ? 0 : before;
    }

    private List<Integer> ratingsOf(int build) {
        app(build);
        List<Integer> ratings = new ArrayList<>();
        stars.forEach((install, given) -> {
            if (install.build == build) {
                ratings.add(given);
            }
        });
        return ratings;
    }

    public double rating(int build) {
        List<Integer> ratings = ratingsOf(build);
        if (ratings.isEmpty()) {
            throw new ArithmeticException();
        }
        int sum = 0;
        for (int given : ratings) {
            sum += given;
        }
        return (double) sum / (double) ratings.size();
    }

    public long ratingBits(int build) {
        return Double.doubleToLongBits(rating(build));
    }

    public int buy(int device, int item) {
        boolean owned = owns(device, item);
        App seller = apps.get(buildOf(device));
        allow(!owned);
        if ((seller.items & 1 << item) == 0) {
            throw new UnsupportedOperationException();
        }
        purchases.add(device * 8 + item);
        return purchases.subSet(device * 8, device * 8 + 8).size();
    }

    public boolean owns(int device, int item) {
        phone(device);
        range(item, 0, 7);
        return purchases.contains(device * 8 + item);
    }

    public boolean canUse(int device, int item) {
        return owns(device, item) && current(device) >= 0 && (apps.get(current(device)).items & 1 << item) != 0;
    }

    public int day() {
        return days;
    }

    public int writeBuild(int build) {
        App app = app(build);
        Map<Character, String> states = Map.of('d', "draft", 'w', "waiting", 'r', "refused", 'a', "approved");
        Map<Character, String> holds = Map.of('v', "review", 'c', "crashes", 't', "ratings");
        String standing = states.get(stateOf(build));
        if (approved.contains(build) && holdOf(build) != '-') {
            standing = "held by " + holds.get(holdOf(build));
        }
        line = "v" + app.version + (app.mends >= 0 ? " fix " : " app ") + standing;
        return line.length();
    }

    public char lineAt(int index) {
        if (index < 0 || index >= line.length()) {
            throw new IndexOutOfBoundsException();
        }
        return line.charAt(index);
    }

    public float usedShare() {
        if (purchases.isEmpty()) {
            throw new ArithmeticException();
        }
        long used = purchases.stream().filter(bought -> canUse(bought / 8, bought % 8)).count();
        return (float) used / (float) purchases.size();
    }

    private Phone phone(int number) {
        return known(phones, number);
    }

    private App app(int number) {
        return known(apps, number);
    }

    private String stack(int number) {
        return known(stacks, number);
    }

    private static <T> T known(List<T> list, int number) {
        if (number < 0 || number >= list.size()) {
            throw new NoSuchElementException();
        }
        return list.get(number);
    }

    private static void range(int value, int least, int greatest) {
        if (value < least || value > greatest) {
            throw new IllegalArgumentException();
        }
    }

    private static void allow(boolean allowed) {
        if (!allowed) {
            throw new IllegalStateException();
        }
    }
}
