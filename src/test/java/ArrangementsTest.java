import java.util.NoSuchElementException;

/** Promises 21 to 28: arrangements, their groups, steps and hits. */
final class ArrangementsTest {
    private static final Checks checks = new Checks();
    private static final Class<IllegalArgumentException> ARGUMENT = IllegalArgumentException.class;
    private static final Class<IndexOutOfBoundsException> INDEX = IndexOutOfBoundsException.class;
    private static final Class<NoSuchElementException> ELEMENT = NoSuchElementException.class;
    /** The last loop may not stand with the first one: it would need a shift of 10. */
    private static final String APART = "for(0,20){a[i-9]=1}for(0,9){b[i]=2}for(0,9){c[i]=a[i+1]+b[i]}";
    private static final String SHIFTED = "for(0,9){a[i]=b[i]}for(2,12){c[i]=a[i+3]}";

    public static void main(String[] args) {
        promise21GroupCount();
        promise21Best();
        promise22GroupOf();
        promise23Shift();
        promise24Step();
        promise25Peeled();
        promise26Carried();
        promise27Reads();
        promise28Hits();
        allSeeChanges();
        hitsAndAllowedSeeChanges();
        checks.finish();
    }

    private static void promise21GroupCount() {
        LoopFuser fuser = new LoopFuser();
        for (int arrangement = 0; arrangement < 3; arrangement++) {
            checks.due("groupCount without loops", 0, fuser.groupCount(arrangement));
        }
        Checks.add(fuser, APART);
        checks.due("groupCount(0)", 3, fuser.groupCount(0));
        checks.due("groupCount(1)", 2, fuser.groupCount(1));
        checks.due("groupCount(2)", 2, fuser.groupCount(2));
        fuser.setOption(0, 10);
        checks.due("groupCount(1) with limit 10", 1, fuser.groupCount(1));
        checks.fails("groupCount(3)", ARGUMENT, () -> fuser.groupCount(3));
        checks.fails("groupCount(-1)", ARGUMENT, () -> fuser.groupCount(-1));
    }

    private static void promise21Best() {
        LoopFuser same = Checks.with("for(0,9){a[i]=1}for(0,9){b[i]=1}for(0,9){c[i]=1}");
        checks.due("of no hits the fewest groups", 1, same.groupCount(2));
        same.setBarrier(2, true);
        checks.due("fewest groups with a barrier", 2, same.groupCount(2));
        sizesDue("fewest groups with a barrier", same, 2, 2, 1);
        // Any two neighbours may stand together without hits, but not all three.
        LoopFuser tie = Checks.with("for(0,20){a[i-9]=1}for(0,9){b[i]=2}for(0,9){c[i]=a[i+1]}");
        sizesDue("of equals the greatest sizes first", tie, 2, 2, 1);
        sizesDue("as many as possible first", tie, 1, 2, 1);
        // The pair of the first two has 10 hits, that of the last two 20.
        LoopFuser more = Checks.with("for(0,20){a[i-9]=1;b[i]=1}", "for(0,9){b[i]=b[i];d[i]=1}",
                "for(0,9){c[i]=a[i+1]+b[i]+d[i]}");
        sizesDue("most hits", more, 2, 1, 2);
        sizesDue("most hits do not count for arrangement 1", more, 1, 2, 1);
        promise21Fewest();
    }

    /**
     * Loops 0 and 2, 2 and 4, 3 and 5 may not stand together. Loops 0 and 1 share 21 hits, 3 and 4 too,
     * and 1 and 3 share 42, so that four groups 2, 1, 2, 1 have as many hits as three groups 1, 3, 2.
     */
    private static void promise21Fewest() {
        LoopFuser fuser = Checks.with("for(0,20){a[i]=1;d[i-9]=1}for(0,20){b[i]=a[i];c[i]=1}",
                "for(0,20){a[i-9]=d[i+1]}for(0,20){e[i]=b[i]+c[i];b[i-9]=1}",
                "for(0,20){d[i]=e[i]+a[i+1]}for(0,20){c[i]=b[i+1]}");
        checks.due("hits of four groups", 42, fuser.hits(0, 1) + fuser.hits(2, 2) + fuser.hits(3, 4) + fuser.hits(5, 5));
        checks.due("hits of three groups", 42, fuser.hits(0, 0) + fuser.hits(1, 3) + fuser.hits(4, 5));
        sizesDue("of equals the fewest groups", fuser, 2, 1, 3, 2);
        sizesDue("as many as possible from the first on", fuser, 1, 2, 2, 2);
        checks.due("hits of the best", 42, fuser.reads(2, 1));
        checks.due("hits asked again", 42, fuser.reads(2, 1));
        checks.due("all reads", 147, fuser.reads(2, 0));
        checks.due("all reads asked again", 147, fuser.reads(2, 0));
        checks.due("shift in the best", 0, fuser.shift(2, 3));
    }

    private static void sizesDue(String what, LoopFuser fuser, int arrangement, int... sizes) {
        checks.due(what + ": groups", sizes.length, fuser.groupCount(arrangement));
        int loop = 0;
        for (int number = 0; number < sizes.length; number++) {
            for (int n = 0; n < sizes[number]; n++) {
                checks.due(what + ": group of loop " + loop, number, fuser.groupOf(arrangement, loop));
                loop++;
            }
        }
    }

    private static void promise22GroupOf() {
        LoopFuser fuser = Checks.with(APART);
        sizesDue("arrangement 0", fuser, 0, 1, 1, 1);
        sizesDue("arrangement 1", fuser, 1, 2, 1);
        sizesDue("arrangement 2", fuser, 2, 1, 2);
        checks.fails("groupOf(3, 3)", ARGUMENT, () -> fuser.groupOf(3, 3));
        checks.fails("groupOf(-1, 0)", ARGUMENT, () -> fuser.groupOf(-1, 0));
        checks.fails("groupOf(0, 3)", INDEX, () -> fuser.groupOf(0, 3));
        checks.fails("groupOf(2, -1)", INDEX, () -> fuser.groupOf(2, -1));
    }

    private static void promise23Shift() {
        LoopFuser fuser = Checks.with("for(0,9){a[i]=1}for(0,9){b[i]=a[i+2]}for(0,9){c[i]=b[i-1]+a[i]}");
        int[] due = {0, 2, 1};
        for (int loop = 0; loop < 3; loop++) {
            checks.due("shift(0, " + loop + ")", 0, fuser.shift(0, loop));
            checks.due("shift(1, " + loop + ")", due[loop], fuser.shift(1, loop));
        }
        checks.due("a shift is not below 0", 0,
                Checks.with("for(0,9){a[i]=1}for(0,9){b[i]=a[i-3]}").shift(1, 1));
        fuser.setOption(0, 1);
        checks.due("shift of the first of a later group", 0, fuser.shift(1, 1));
        checks.due("shift from within the group alone", 0, fuser.shift(1, 2));
        checks.fails("shift(3, 9)", ARGUMENT, () -> fuser.shift(3, 9));
        checks.fails("shift(-1, 0)", ARGUMENT, () -> fuser.shift(-1, 0));
        checks.fails("shift(1, 3)", INDEX, () -> fuser.shift(1, 3));
        checks.fails("shift(1, -1)", INDEX, () -> fuser.shift(1, -1));
    }

    private static void promise24Step() {
        LoopFuser fuser = Checks.with(SHIFTED);
        int[] due = {0, 15, 5, 9};
        for (int what = 0; what < 4; what++) {
            checks.due("step(1, 0, " + what + ")", due[what], fuser.step(1, 0, what));
        }
        checks.due("step(0, 1, 0)", 2, fuser.step(0, 1, 0));
        checks.due("step(0, 1, 3)", 12, fuser.step(0, 1, 3));
        checks.fails("step(1, 0, 4)", ARGUMENT, () -> fuser.step(1, 0, 4));
        checks.fails("step(1, 9, -1)", ARGUMENT, () -> fuser.step(1, 9, -1));
        checks.fails("step(3, 9, 0)", ARGUMENT, () -> fuser.step(3, 9, 0));
        checks.fails("step(1, 1, 0)", INDEX, () -> fuser.step(1, 1, 0));
        checks.fails("step(0, -1, 2)", INDEX, () -> fuser.step(0, -1, 2));
        LoopFuser touching = Checks.with("for(0,5){a[i]=1}for(5,9){b[i]=1}");
        checks.due("main part of one step, first", 5, touching.step(1, 0, 2));
        checks.due("main part of one step, last", 5, touching.step(1, 0, 3));
        LoopFuser empty = Checks.with("for(7,9){b[i]=1}for(0,5){a[i]=1}");
        checks.due("first step without a main part", 0, empty.step(1, 0, 0));
        checks.due("last step without a main part", 9, empty.step(1, 0, 1));
        checks.fails("first step of an empty main part", ELEMENT, () -> empty.step(1, 0, 2));
        checks.fails("last step of an empty main part", ELEMENT, () -> empty.step(1, 0, 3));
    }

    private static void promise25Peeled() {
        LoopFuser fuser = Checks.with(SHIFTED);
        checks.due("peeled(1, 0, 0)", 5, fuser.peeled(1, 0, 0));
        checks.due("peeled(1, 0, 1)", 0, fuser.peeled(1, 0, 1));
        checks.due("peeled(1, 1, 0)", 0, fuser.peeled(1, 1, 0));
        checks.due("peeled(1, 1, 1)", 6, fuser.peeled(1, 1, 1));
        checks.due("peeled(0, 1, 1)", 0, fuser.peeled(0, 1, 1));
        LoopFuser within = Checks.with("for(0,30){a[i]=1}for(4,9){b[i]=1}");
        checks.due("peeled before", 4, within.peeled(1, 0, 0));
        checks.due("peeled after", 21, within.peeled(1, 0, 1));
        LoopFuser empty = Checks.with("for(0,5){a[i]=1}for(7,9){b[i]=1}");
        for (int loop = 0; loop < 2; loop++) {
            checks.due("all are before an empty main part", 6 - 3 * loop, empty.peeled(1, loop, 0));
            checks.due("none is after an empty main part", 0, empty.peeled(1, loop, 1));
        }
        checks.fails("peeled(1, 0, 2)", ARGUMENT, () -> fuser.peeled(1, 0, 2));
        checks.fails("peeled(1, 2, -1)", ARGUMENT, () -> fuser.peeled(1, 2, -1));
        checks.fails("peeled(3, 2, 0)", ARGUMENT, () -> fuser.peeled(3, 2, 0));
        checks.fails("peeled(1, 2, 0)", INDEX, () -> fuser.peeled(1, 2, 0));
        checks.fails("peeled(1, -1, 0)", INDEX, () -> fuser.peeled(1, -1, 0));
    }

    private static void promise26Carried() {
        carriedDue(0, "for(0,9){a[i]=1}");
        carriedDue(1, "for(0,9){a[i]=a[i-1]}");
        carriedDue(1, "for(0,9){a[i-1]=a[i]}");
        carriedDue(3, "for(0,9){a[i]=1;a[i-3]=2}");
        carriedDue(2, "for(0,9){a[i]=a[i-2]+a[i-5]}");
        carriedDue(0, "for(0,9){b[i]=a[i]+a[i-1]}");
        carriedDue(9, "for(0,9){a[i]=a[i-9]}");
        carriedDue(0, "for(0,8){a[i]=a[i-9]}");
        carriedDue(0, "for(0,9){a[i]=1}for(0,9){b[i]=a[i+3]}");
        carriedDue(4, "for(0,9){a[i]=1}for(0,9){b[i]=a[i+3]+a[i-1]}");
        carriedDue(2, "for(0,9){a[i]=1}for(0,9){b[i]=a[i]+a[i-2]}");
        carriedDue(18, "for(0,30){a[i+9]=1}for(0,30){b[i]=a[i-9]}");
        LoopFuser fuser = Checks.with(SHIFTED + "for(0,9){d[i]=d[i+4]}");
        checks.due("carried(0, 2)", 4, fuser.carried(0, 2));
        checks.due("carried(0, 0)", 0, fuser.carried(0, 0));
        checks.fails("carried(3, 9)", ARGUMENT, () -> fuser.carried(3, 9));
        checks.fails("carried(-1, 0)", ARGUMENT, () -> fuser.carried(-1, 0));
        checks.fails("carried(0, 3)", INDEX, () -> fuser.carried(0, 3));
        checks.fails("carried(1, -1)", INDEX, () -> fuser.carried(1, -1));
    }

    private static void carriedDue(int want, String text) {
        checks.due("carried distance of " + text, want, Checks.with(text).carried(1, 0));
    }

    private static void promise27Reads() {
        readsDue(20, 8, 2, 2, "for(0,9){a[i]=b[i]+b[i-2]}");
        readsDue(20, 0, 0, 1, "for(0,9){a[i]=b[i]+b[i-2]}");
        readsDue(20, 10, 0, 0, "for(0,9){a[i]=b[i]+b[i]}");
        readsDue(30, 18, 1, 9, "for(0,9){a[i]=b[i]+b[i-1]+b[i-2]}");
        readsDue(10, 0, 0, 9, "for(0,9){a[i]=a[i]}");
        readsDue(10, 9, 1, 9, "for(0,9){a[i]=a[i-1]}");
        readsDue(10, 10, 0, 0, "for(0,9){a[i]=1;b[i]=a[i]}");
        LoopFuser far = Checks.with("for(0,9){a[i]=a[i-3]}");
        checks.due("greatest distance at first", 3, far.reads(0, 2));
        far.setOption(1, 2);
        checks.due("greatest distance of less hits after more", 0, far.reads(0, 2));
        readsDue(10, 1, 9, 9, "for(0,9){a[i]=a[i-9]}");
        readsDue(10, 0, 0, 8, "for(0,9){a[i]=a[i-9]}");
        readsDue(0, 0, 0, 3, "for(0,9){a[i]=1}");
        LoopFuser fuser = Checks.with("for(0,9){a[i]=1}for(0,9){b[i]=a[i]}");
        checks.due("reads(0, 0)", 10, fuser.reads(0, 0));
        checks.due("references in other groups do not count", 0, fuser.reads(0, 1));
        checks.due("distance without hits", 0, fuser.reads(0, 2));
        checks.due("reads(1, 1)", 10, fuser.reads(1, 1));
        checks.due("reads(2, 1)", 10, fuser.reads(2, 1));
        LoopFuser apart = Checks.with("for(0,9){a[i]=b[i]+b[i-2]}for(0,9){c[i]=d[i]+d[i-1]}");
        checks.due("hits of all groups", 17, apart.reads(0, 1));
        checks.due("greatest distance of all groups", 2, apart.reads(0, 2));
        checks.fails("reads(0, 3)", ARGUMENT, () -> fuser.reads(0, 3));
        checks.fails("reads(0, -1)", ARGUMENT, () -> fuser.reads(0, -1));
        checks.fails("reads(3, 0)", ARGUMENT, () -> fuser.reads(3, 0));
        checks.fails("reads(-1, 0)", ARGUMENT, () -> fuser.reads(-1, 0));
        checks.due("reads without loops", 0, new LoopFuser().reads(1, 0));
    }

    private static void readsDue(int all, int hits, int farthest, int window, String text) {
        LoopFuser fuser = Checks.with(text);
        fuser.setOption(1, window);
        checks.due("reads of " + text, all, fuser.reads(1, 0));
        checks.due("hits of " + text, hits, fuser.reads(1, 1));
        checks.due("greatest distance of " + text, farthest, fuser.reads(1, 2));
    }

    private static void promise28Hits() {
        LoopFuser fuser = Checks.with("for(0,20){a[i-9]=b[i]}for(0,9){b[i]=2}for(0,9){c[i]=a[i+1]+b[i]}");
        checks.due("hits(0, 0)", 0, fuser.hits(0, 0));
        checks.due("hits(1, 2)", 10, fuser.hits(1, 2));
        checks.due("isAllowed(0, 2)", false, fuser.isAllowed(0, 2));
        checks.due("hits of a group that is not allowed", 10, fuser.hits(0, 2));
        LoopFuser far = Checks.with("for(0,30){a[i-9]=1}for(0,30){c[i]=a[i+1]}");
        checks.due("not allowed", false, far.isAllowed(0, 1));
        checks.due("hits of cells -9 to 21 and 1 to 31", 21, far.hits(0, 1));
        fuser.setBarrier(2, true);
        checks.due("hits over a barrier", 10, fuser.hits(1, 2));
        fuser.setOption(1, 0);
        checks.due("hits in the same step", 10, fuser.hits(1, 2));
        checks.fails("hits(2, 1)", ARGUMENT, () -> fuser.hits(2, 1));
        checks.fails("hits(3, 0)", INDEX, () -> fuser.hits(3, 0));
        checks.fails("hits(2, -1)", INDEX, () -> fuser.hits(2, -1));
        checks.fails("hits(0, 3)", INDEX, () -> fuser.hits(0, 3));
    }

    /** Each call that changes the program must be seen by arrangements asked before. */
    private static void allSeeChanges() {
        LoopFuser fuser = Checks.with("for(0,9){a[i]=1}for(0,9){b[i]=a[i+4]}");
        for (int arrangement = 1; arrangement < 3; arrangement++) {
            checks.due("groups at first", 1, fuser.groupCount(arrangement));
            fuser.save();
            fuser.setOption(0, 3);
            checks.due("groups after setOption", 2, fuser.groupCount(arrangement));
            fuser.restore();
            checks.due("groups after restore", 1, fuser.groupCount(arrangement));
            fuser.setBarrier(1, true);
            checks.due("groups after setBarrier", 2, fuser.groupCount(arrangement));
            fuser.setBarrier(1, false);
            checks.due("last step before setBound", 13, fuser.step(arrangement, 0, 1));
            fuser.setBound(1, 1, 20);
            checks.due("last step after setBound", 24, fuser.step(arrangement, 0, 1));
            Checks.add(fuser, "for(0,30){c[i]=b[i+9]}");
            checks.due("groups after read", 2, fuser.groupCount(arrangement));
            fuser.removeLoop(0);
            checks.due("groups after removeLoop", 1, fuser.groupCount(arrangement));
            checks.due("shift after removeLoop", 9, fuser.shift(arrangement, 1));
            fuser.restore();
        }
    }

    /** The same for calls that ask no arrangement; nothing else is asked between. */
    private static void hitsAndAllowedSeeChanges() {
        String text = "for(0,9){c[i]=1}for(0,9){a[i]=1}for(0,9){b[i]=a[i+4]}";
        LoopFuser fuser = Checks.with(text);
        fuser.setOption(1, 0);
        checks.due("hits with a shift of 4, asked first", 6, fuser.hits(1, 2));
        fuser.removeLoop(0);
        checks.due("hits after removeLoop", 6, fuser.hits(0, 1));
        fuser.setBound(0, 0, 7);
        checks.due("hits after setBound", 3, fuser.hits(0, 1));
        LoopFuser other = Checks.with(text);
        other.setOption(0, 3);
        checks.due("not allowed with a shift of 4, asked first", false, other.isAllowed(1, 2));
        other.removeLoop(0);
        checks.due("not allowed after removeLoop", false, other.isAllowed(0, 1));
        other.setBound(1, 1, 0);
        other.setBound(0, 1, 3);
        checks.due("allowed after setBound", true, other.isAllowed(0, 1));
    }
}
