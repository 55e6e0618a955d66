import java.util.ArrayList;
import java.util.NoSuchElementException;

/**
 * A store front for apps, as the document promises it: builds are reviewed and rolled out, devices
 * update, crash, rate and buy.
 */
public final class Releasetrain {
    private static final int MOST_DEVICES = 12;
    private static final int MOST_BUILDS = 10;
    private static final int MOST_GROUPS = 30;
    private static final int MOST_LETTERS = 6;
    private static final int MODELS = 6;
    private static final int LANGUAGES = 3;
    private static final int BUCKETS = 100;
    private static final int ITEMS = 8;
    private static final int ALL_MODELS = 63;
    private static final int ALL_LANGUAGES = 7;
    private static final int ALL_PERMISSIONS = 15;
    private static final int ALL_ITEMS = 255;
    private static final int GREATEST_VERSION = 999;
    private static final int GREATEST_SIZE = 500;
    private static final int GREATEST_PERCENTAGE = 100;
    private static final int GREATEST_STEP = 100;
    private static final int GREATEST_BOUND = 1000;
    private static final int GREATEST_RATE = 9999;
    private static final int MOST_STARS = 5;
    private static final int MOST_DAYS = 99;
    private static final int LAST_DAY = 999;
    private static final int ENOUGH_TO_HOLD = 3;

    private static final char DRAFT = 'd';
    private static final char WAITING = 'w';
    private static final char REFUSED = 'r';
    private static final char APPROVED = 'a';

    private static final char NONE = '-';
    private static final char TOO_LARGE = 's';
    private static final char BARRED_PERMISSION = 'p';
    private static final char HELD_BY_REVIEW = 'v';
    private static final char HELD_BY_CRASHES = 'c';
    private static final char HELD_BY_RATINGS = 't';

    private final ArrayList<Device> devices = new ArrayList<>();
    private final ArrayList<DeviceKind> kinds = new ArrayList<>();
    private final ArrayList<Build> builds = new ArrayList<>();
    private final ArrayList<Group> crashGroups = new ArrayList<>();
    private final Stack typed = new Stack();
    private final Stack crashing = new Stack();
    private final StringBuilder line = new StringBuilder();
    private int sizeLimit = 200;
    private int barred = 0;
    private int submissions = 0;
    private float likenessBound = 0.5f;
    private float rateLimit = 0.5f;
    private int today = 0;

    public Releasetrain() {
    }

    public int addDevice(int model, int language, int bucket) throws IllegalArgumentException, IllegalStateException {
        if (outside(model, 0, MODELS - 1) || outside(language, 0, LANGUAGES - 1) || outside(bucket, 0, BUCKETS - 1)) {
            throw new IllegalArgumentException("a number is out of range");
        }
        if (devices.size() >= MOST_DEVICES) {
            throw new IllegalStateException("there are 12 devices");
        }
        devices.add(new Device(model, language, bucket));
        kindFor(model, language).counts.change(bucket, 1);
        return devices.size() - 1;
    }

    public int addBuild(int version, int models, int languages, int size, int permissions, int items)
            throws IllegalArgumentException, IllegalStateException {
        if (outside(models, 1, ALL_MODELS) || outside(languages, 1, ALL_LANGUAGES) || outside(items, 0, ALL_ITEMS)) {
            throw new IllegalArgumentException("a number is out of range");
        }
        return addDraft(version, new Offer(models, languages, items), size, permissions, null);
    }

    public int addFix(int build, int version, int size, int permissions)
            throws NoSuchElementException, IllegalArgumentException, IllegalStateException {
        Build mended = knownBuild(build);
        return addDraft(version, mended.offer, size, permissions, mended);
    }

    public int submit(int build) throws NoSuchElementException, IllegalStateException {
        Build draft = knownBuild(build);
        if (draft.state != DRAFT) {
            throw new IllegalStateException("it is no draft");
        }
        queue(draft);
        return countWaiting();
    }

    public int nextInReview() throws IllegalStateException {
        return firstWaiting().number;
    }

    public char review() throws IllegalStateException {
        Build reviewed = firstWaiting();
        char rule = barringRule(reviewed);
        reviewed.state = rule == NONE ? APPROVED : REFUSED;
        return rule;
    }

    public int appeal(int build) throws NoSuchElementException, IllegalStateException {
        Build refused = knownBuild(build);
        if (refused.state != REFUSED || refused.appealed) {
            throw new IllegalStateException("it is not refused, or was appealed");
        }
        refused.appealed = true;
        queue(refused);
        return countWaiting();
    }

    public int setSize(int size) throws IllegalArgumentException {
        if (outside(size, 1, GREATEST_SIZE)) {
            throw new IllegalArgumentException("the size is out of range");
        }
        int before = sizeLimit;
        sizeLimit = size;
        return before;
    }

    public int setBarred(int permissions) throws IllegalArgumentException {
        if (outside(permissions, 0, ALL_PERMISSIONS)) {
            throw new IllegalArgumentException("the number is out of range");
        }
        int before = barred;
        barred = permissions;
        return before;
    }

    public char stateOf(int build) throws NoSuchElementException {
        return knownBuild(build).state;
    }

    public int stage(int build, int percentage, int step)
            throws NoSuchElementException, IllegalArgumentException, IllegalStateException, UnsupportedOperationException {
        Build staged = knownBuild(build);
        if (outside(percentage, 1, GREATEST_PERCENTAGE) || outside(step, 0, GREATEST_STEP)) {
            throw new IllegalArgumentException("a number is out of range");
        }
        if (staged.state != APPROVED) {
            throw new IllegalStateException("it is not approved");
        }
        int before = staged.percentage;
        if (percentage < before) {
            throw new UnsupportedOperationException("the percentage is less than the one before");
        }
        staged.percentage = percentage;
        staged.step = step;
        return before;
    }

    public int percentageOf(int build) throws NoSuchElementException {
        return knownBuild(build).percentage;
    }

    public int percentageAfter(int build, int days) throws NoSuchElementException, IllegalArgumentException {
        Build asked = knownBuild(build);
        if (outside(days, 1, MOST_DAYS)) {
            throw new IllegalArgumentException("the number is out of range");
        }
        return grownPercentage(asked, days);
    }

    public int pass(int days) throws IllegalArgumentException, IllegalStateException {
        if (outside(days, 1, MOST_DAYS)) {
            throw new IllegalArgumentException("the number is out of range");
        }
        if (today + days > LAST_DAY) {
            throw new IllegalStateException("the day would be greater than 999");
        }
        for (int i = 0; i < builds.size(); i++) {
            Build build = builds.get(i);
            build.percentage = grownPercentage(build, days);
        }
        today += days;
        return today;
    }

    public char holdOf(int build) throws NoSuchElementException, IllegalStateException {
        Build asked = knownBuild(build);
        if (asked.state != APPROVED) {
            throw new IllegalStateException("it is not approved");
        }
        return holdReason(asked);
    }

    public int day() {
        return today;
    }

    public boolean couldHave(int device, int build) throws NoSuchElementException {
        Device asked = knownDevice(device);
        return isOpenTo(knownBuild(build), asked);
    }

    public int reach(int build) throws NoSuchElementException {
        Build asked = knownBuild(build);
        if (!isRolledOut(asked)) {
            return 0;
        }
        int reached = 0;
        for (int i = 0; i < kinds.size(); i++) {
            DeviceKind kind = kinds.get(i);
            if (asked.offer.isFor(kind.model, kind.language)) {
                reached += kind.counts.countBelow(asked.percentage);
            }
        }
        // Whoever has the mended build got it by its model and its language, which are the fix's too.
        if (asked.mended != null) {
            BucketCounts holders = asked.mended.holders;
            reached += holders.total - holders.countBelow(asked.percentage);
        }
        return reached;
    }

    public int reachByDevices(int build) throws NoSuchElementException {
        Build asked = knownBuild(build);
        int reached = 0;
        for (int i = 0; i < devices.size(); i++) {
            if (isOpenTo(asked, devices.get(i))) {
                reached++;
            }
        }
        return reached;
    }

    public int offered(int device) throws NoSuchElementException, IllegalStateException {
        return choiceFor(knownDevice(device)).number;
    }

    public int update(int device) throws NoSuchElementException, IllegalStateException {
        Device updating = knownDevice(device);
        Build given = choiceFor(updating);
        if (updating.build != null) {
            updating.build.holders.change(updating.bucket, -1);
        }
        given.holders.change(updating.bucket, 1);
        given.installCount++;
        updating.build = given;
        // Versions only rise, so a device never comes back to a build that it has rated.
        updating.stars = 0;
        return given.number;
    }

    public int buildOf(int device) throws NoSuchElementException, IllegalStateException {
        return buildHadBy(knownDevice(device)).number;
    }

    public int devicesWith(int build) throws NoSuchElementException {
        return knownBuild(build).holders.total;
    }

    public int installs(int build) throws NoSuchElementException {
        return knownBuild(build).installCount;
    }

    public int type(char letter) throws IllegalArgumentException, IllegalStateException {
        if (letter < 'a' || letter > 'z') {
            throw new IllegalArgumentException("it is not from 'a' to 'z'");
        }
        if (typed.length >= MOST_LETTERS) {
            throw new IllegalStateException("the text has 6 letters");
        }
        typed.append(letter);
        return typed.length;
    }

    public int crash(int device) throws NoSuchElementException, IllegalStateException {
        // The typed text is emptied even by a call that throws, so its letters move out first.
        crashing.copyFrom(typed);
        typed.clear();
        Build had = buildHadBy(knownDevice(device));
        if (crashing.length == 0) {
            throw new IllegalStateException("the text is empty");
        }
        Group group = groupOfCrash();
        group.crashCount++;
        group.buildSum |= 1 << had.number;
        had.crashCount++;
        return group.number;
    }

    public int groups() {
        return crashGroups.size();
    }

    public int crashesIn(int group) throws NoSuchElementException {
        return knownGroup(group).crashCount;
    }

    public char stackAt(int group, int place) throws NoSuchElementException, IndexOutOfBoundsException {
        Stack first = knownGroup(group).first;
        if (outside(place, 0, first.length - 1)) {
            throw new IndexOutOfBoundsException("there is no such place");
        }
        return first.letters[place];
    }

    public float likeness(int group, int other) throws NoSuchElementException {
        Stack first = knownGroup(group).first;
        return first.likenessTo(knownGroup(other).first);
    }

    public int setBound(int thousandths) throws IllegalArgumentException {
        if (outside(thousandths, 0, GREATEST_BOUND)) {
            throw new IllegalArgumentException("the number is out of range");
        }
        int before = floatBits(likenessBound);
        likenessBound = (float) thousandths / 1000.0f;
        return before;
    }

    public int worstGroup() throws IllegalStateException {
        if (crashGroups.isEmpty()) {
            throw new IllegalStateException("there is no group");
        }
        Group worst = crashGroups.get(0);
        for (int i = 1; i < crashGroups.size(); i++) {
            Group group = crashGroups.get(i);
            if (group.crashCount > worst.crashCount) {
                worst = group;
            }
        }
        return worst.number;
    }

    public int buildsIn(int group) throws NoSuchElementException {
        return knownGroup(group).buildSum;
    }

    public int setRate(int thousandths) throws IllegalArgumentException {
        if (outside(thousandths, 0, GREATEST_RATE)) {
            throw new IllegalArgumentException("the number is out of range");
        }
        int before = floatBits(rateLimit);
        rateLimit = (float) thousandths / 1000.0f;
        return before;
    }

    public float crashRate(int build) throws NoSuchElementException {
        return knownBuild(build).crashesPerInstall();
    }

    public int rate(int device, int stars) throws NoSuchElementException, IllegalArgumentException, IllegalStateException {
        Device rating = knownDevice(device);
        if (outside(stars, 1, MOST_STARS)) {
            throw new IllegalArgumentException("the stars are out of range");
        }
        Build rated = buildHadBy(rating);
        int before = rating.stars;
        rating.stars = stars;
        rated.starSum += stars - before;
        if (before == 0) {
            rated.ratingCount++;
        }
        return before;
    }

    public double rating(int build) throws NoSuchElementException, ArithmeticException {
        return ratedBuild(build).meanStars();
    }

    public long ratingBits(int build) throws NoSuchElementException, ArithmeticException {
        return doubleBits(ratedBuild(build).meanStars());
    }

    public int buy(int device, int item)
            throws NoSuchElementException, IllegalArgumentException, IllegalStateException, UnsupportedOperationException {
        Device buyer = knownDevice(device);
        refuseUnknownItem(item);
        Build seller = buildHadBy(buyer);
        if (isIn(buyer.owned, item)) {
            throw new IllegalStateException("it owns the item");
        }
        if (!isIn(seller.offer.items, item)) {
            throw new UnsupportedOperationException("its build does not sell it");
        }
        buyer.owned |= 1 << item;
        return Integer.bitCount(buyer.owned);
    }

    public boolean owns(int device, int item) throws NoSuchElementException, IllegalArgumentException {
        Device asked = knownDevice(device);
        refuseUnknownItem(item);
        return isIn(asked.owned, item);
    }

    public boolean canUse(int device, int item) throws NoSuchElementException, IllegalArgumentException {
        Device asked = knownDevice(device);
        refuseUnknownItem(item);
        return isIn(asked.usableItems(), item);
    }

    public float usedShare() throws ArithmeticException {
        int owned = 0;
        int usable = 0;
        for (int i = 0; i < devices.size(); i++) {
            Device device = devices.get(i);
            owned += Integer.bitCount(device.owned);
            usable += Integer.bitCount(device.usableItems());
        }
        if (owned == 0) {
            throw new ArithmeticException("they own none");
        }
        return (float) usable / (float) owned;
    }

    public int writeBuild(int build) throws NoSuchElementException {
        Build written = knownBuild(build);
        line.setLength(0);
        line.append('v');
        line.append(written.version);
        line.append(written.isFix() ? " fix " : " app ");
        line.append(standingOf(written));
        return line.length();
    }

    public char lineAt(int index) throws IndexOutOfBoundsException {
        if (outside(index, 0, line.length() - 1)) {
            throw new IndexOutOfBoundsException("there is no such character");
        }
        return line.charAt(index);
    }

    private static boolean outside(int value, int least, int greatest) {
        return value < least || value > greatest;
    }

    private static boolean isIn(int sumOfPowers, int number) {
        return (sumOfPowers >> number & 1) == 1;
    }

    private Device knownDevice(int number) {
        if (outside(number, 0, devices.size() - 1)) {
            throw new NoSuchElementException("there is no such device");
        }
        return devices.get(number);
    }

    private Build knownBuild(int number) {
        if (outside(number, 0, builds.size() - 1)) {
            throw new NoSuchElementException("there is no such build");
        }
        return builds.get(number);
    }

    private Group knownGroup(int number) {
        if (outside(number, 0, crashGroups.size() - 1)) {
            throw new NoSuchElementException("there is no such group");
        }
        return crashGroups.get(number);
    }

    private Build ratedBuild(int number) {
        Build rated = knownBuild(number);
        if (rated.ratingCount == 0) {
            throw new ArithmeticException("it has no ratings");
        }
        return rated;
    }

    private static Build buildHadBy(Device device) {
        Build had = device.build;
        if (had == null) {
            throw new IllegalStateException("it has no build");
        }
        return had;
    }

    private static void refuseUnknownItem(int item) {
        if (outside(item, 0, ITEMS - 1)) {
            throw new IllegalArgumentException("there is no such item");
        }
    }

    private DeviceKind kindFor(int model, int language) {
        for (int i = 0; i < kinds.size(); i++) {
            DeviceKind kind = kinds.get(i);
            if (kind.model == model && kind.language == language) {
                return kind;
            }
        }
        DeviceKind added = new DeviceKind(model, language);
        kinds.add(added);
        return added;
    }

    private int addDraft(int version, Offer offer, int size, int permissions, Build mended) {
        if (outside(version, 1, GREATEST_VERSION) || outside(size, 1, GREATEST_SIZE)
                || outside(permissions, 0, ALL_PERMISSIONS)) {
            throw new IllegalArgumentException("a number is out of range");
        }
        if (hasVersion(version) || builds.size() >= MOST_BUILDS) {
            throw new IllegalStateException("a build has this version, or there are 10 builds");
        }
        Build added = new Build(builds.size(), version, offer, size, permissions, mended);
        builds.add(added);
        return added.number;
    }

    private boolean hasVersion(int version) {
        for (int i = 0; i < builds.size(); i++) {
            if (builds.get(i).version == version) {
                return true;
            }
        }
        return false;
    }

    private void queue(Build build) {
        build.state = WAITING;
        build.turn = submissions;
        submissions++;
    }

    private int countWaiting() {
        int waiting = 0;
        for (int i = 0; i < builds.size(); i++) {
            if (builds.get(i).state == WAITING) {
                waiting++;
            }
        }
        return waiting;
    }

    private Build firstWaiting() {
        Build first = null;
        for (int i = 0; i < builds.size(); i++) {
            Build build = builds.get(i);
            if (build.state == WAITING && (first == null || build.isReviewedAheadOf(first))) {
                first = build;
            }
        }
        if (first == null) {
            throw new IllegalStateException("none waits");
        }
        return first;
    }

    private char barringRule(Build build) {
        if (build.size > sizeLimit) {
            return TOO_LARGE;
        }
        return (build.permissions & barred) != 0 ? BARRED_PERMISSION : NONE;
    }

    private char holdReason(Build approved) {
        if (barringRule(approved) != NONE) {
            return HELD_BY_REVIEW;
        }
        if (approved.installCount >= ENOUGH_TO_HOLD && approved.crashesPerInstall() > rateLimit) {
            return HELD_BY_CRASHES;
        }
        if (approved.ratingCount >= ENOUGH_TO_HOLD && approved.meanStars() < 2.5) {
            return HELD_BY_RATINGS;
        }
        return NONE;
    }

    private boolean isRolledOut(Build build) {
        return build.state == APPROVED && build.percentage > 0 && holdReason(build) == NONE;
    }

    private int grownPercentage(Build build, int days) {
        if (!isRolledOut(build)) {
            return build.percentage;
        }
        // Days alone neither hold nor free a build, so one look is as good as one ahead of each day.
        return Math.min(GREATEST_PERCENTAGE, build.percentage + build.step * days);
    }

    private boolean isOpenTo(Build build, Device device) {
        return isRolledOut(build)
                && build.offer.isFor(device.model, device.language)
                && (device.bucket < build.percentage || build.isFixOf(device.build));
    }

    private Build choiceFor(Device device) {
        Build best = null;
        for (int i = 0; i < builds.size(); i++) {
            Build build = builds.get(i);
            if (build.isNewerThan(device.build) && isOpenTo(build, device)
                    && (best == null || build.isGivenAheadOf(best))) {
                best = build;
            }
        }
        if (best == null) {
            throw new IllegalStateException("it is given none");
        }
        return best;
    }

    private Group groupOfCrash() {
        Group nearest = nearestGroup();
        if (nearest != null && nearest.first.likenessTo(crashing) >= likenessBound) {
            return nearest;
        }
        if (crashGroups.size() >= MOST_GROUPS) {
            throw new IllegalStateException("there would be more than 30 groups");
        }
        Group added = new Group(crashGroups.size(), crashing);
        crashGroups.add(added);
        return added;
    }

    private Group nearestGroup() {
        Group nearest = null;
        float greatest = 0.0f;
        for (int i = 0; i < crashGroups.size(); i++) {
            Group group = crashGroups.get(i);
            float likeness = group.first.likenessTo(crashing);
            if (nearest == null || likeness > greatest) {
                nearest = group;
                greatest = likeness;
            }
        }
        return nearest;
    }

    private String standingOf(Build build) {
        if (build.state == DRAFT) {
            return "draft";
        }
        if (build.state == WAITING) {
            return "waiting";
        }
        return build.state == REFUSED ? "refused" : standingOfApproved(build);
    }

    private String standingOfApproved(Build approved) {
        char reason = holdReason(approved);
        if (reason == HELD_BY_REVIEW) {
            return "held by review";
        }
        if (reason == HELD_BY_CRASHES) {
            return "held by crashes";
        }
        return reason == HELD_BY_RATINGS ? "held by ratings" : "approved";
    }

    // No call of the library that this file keeps to gives bits. A float stands in a double unchanged,
    // with 29 more binary digits behind its own 23, all of them 0.
    private static int floatBits(float value) {
        if (value <= 0.0f) {
            return 0;
        }
        long wide = doubleBits(value);
        int exponent = (int) (wide >>> 52) - 1023 + 127;
        int fraction = (int) (wide >>> 29) & 0x7FFFFF;
        return exponent << 23 | fraction;
    }

    // Halving and doubling are exact here, so the digits that come out are those of the value.
    private static long doubleBits(double value) {
        if (value <= 0.0) {
            return 0L;
        }
        double digits = value;
        long exponent = 1023L;
        for (int i = 0; i < 1100 && digits >= 2.0; i++) {
            digits = digits / 2.0;
            exponent++;
        }
        for (int i = 0; i < 1100 && digits < 1.0; i++) {
            digits = digits * 2.0;
            exponent--;
        }
        long fraction = (long) ((digits - 1.0) * 4503599627370496.0);
        return exponent << 52 | fraction;
    }

    private static final class Device {
        final int model;
        final int language;
        final int bucket;
        Build build = null;
        int stars = 0;
        int owned = 0;

        Device(int model, int language, int bucket) {
            this.model = model;
            this.language = language;
            this.bucket = bucket;
        }

        int usableItems() {
            return build == null ? 0 : owned & build.offer.items;
        }
    }

    /** Kept apart from the build, since a fix shares the offer of the build that it mends. */
    private static final class Offer {
        final int models;
        final int languages;
        final int items;

        Offer(int models, int languages, int items) {
            this.models = models;
            this.languages = languages;
            this.items = items;
        }

        boolean isFor(int model, int language) {
            return isIn(models, model) && isIn(languages, language);
        }
    }

    private static final class Build {
        final int number;
        final int version;
        final Offer offer;
        final int size;
        final int permissions;
        final Build mended;
        final BucketCounts holders = new BucketCounts();
        char state = DRAFT;
        boolean appealed = false;
        int turn = 0;
        int percentage = 0;
        int step = 0;
        int installCount = 0;
        int crashCount = 0;
        int ratingCount = 0;
        int starSum = 0;

        Build(int number, int version, Offer offer, int size, int permissions, Build mended) {
            this.number = number;
            this.version = version;
            this.offer = offer;
            this.size = size;
            this.permissions = permissions;
            this.mended = mended;
        }

        boolean isFix() {
            return mended != null;
        }

        boolean isFixOf(Build other) {
            return mended != null && mended == other;
        }

        boolean isNewerThan(Build other) {
            return other == null || version > other.version;
        }

        boolean isReviewedAheadOf(Build other) {
            return isFix() == other.isFix() ? turn < other.turn : isFix();
        }

        boolean isGivenAheadOf(Build other) {
            return isFix() == other.isFix() ? version > other.version : isFix();
        }

        float crashesPerInstall() {
            return installCount == 0 ? 0.0f : (float) crashCount / (float) installCount;
        }

        double meanStars() {
            return ratingCount == 0 ? 0.0 : (double) starSum / (double) ratingCount;
        }
    }

    /** Stands for all devices of one model and one language, so that reach can count them without asking each. */
    private static final class DeviceKind {
        final int model;
        final int language;
        final BucketCounts counts = new BucketCounts();

        DeviceKind(int model, int language) {
            this.model = model;
            this.language = language;
        }
    }

    /** Devices counted by bucket; sums are kept, so that no call has to add up a hundred buckets. */
    private static final class BucketCounts {
        final int[] below = new int[BUCKETS + 1];
        int total = 0;

        void change(int bucket, int by) {
            total += by;
            for (int bound = 0; bound < below.length; bound++) {
                if (bucket < bound) {
                    below[bound] += by;
                }
            }
        }

        int countBelow(int percentage) {
            return outside(percentage, 0, below.length - 1) ? 0 : below[percentage];
        }
    }

    private static final class Stack {
        final char[] letters = new char[MOST_LETTERS];
        int length = 0;

        void append(char letter) {
            if (length < letters.length) {
                letters[length] = letter;
                length++;
            }
        }

        void clear() {
            length = 0;
        }

        void copyFrom(Stack other) {
            clear();
            for (int i = 0; i < other.length; i++) {
                append(other.letters[i]);
            }
        }

        float likenessTo(Stack other) {
            int longer = Math.max(length, other.length);
            if (longer == 0) {
                return 0.0f;
            }
            int shorter = Math.min(length, other.length);
            int alike = 0;
            while (alike < shorter && letters[alike] == other.letters[alike]) {
                alike++;
            }
            return (float) alike / (float) longer;
        }
    }

    private static final class Group {
        final int number;
        final Stack first = new Stack();
        int crashCount = 0;
        int buildSum = 0;

        Group(int number, Stack crashing) {
            this.number = number;
            first.copyFrom(crashing);
        }
    }
}
