/**
 * The sentences on dependences, groups, arrangements, hits, runs and options, promises 5 to 33, and "In doubt" as
 * far as it is about them: each sentence that names an edge has a method of its own, which bears the sentence.
 * What is refused stands in RefusalsTest.
 */
final class ProgramEdgesTest {
    private static final Checks checks = new Checks();
    private static final int LEAST = Integer.MIN_VALUE;
    private static final int GREATEST = Integer.MAX_VALUE;
    /** With b[i-7] shifts of 0, 18 and 20, with b[i-6] the last one is 21. */
    private static final String FAR = "for(0,30){a[i-9]=1}for(0,30){b[i-9]=a[i+9]}for(0,30){c[i]=b[i-7]}";

    public static void main(String[] args) {
        dependenceEdges();
        groupEdges();
        arrangementEdges();
        hitEdges();
        runEdges();
        optionEdges();
        loopEdges();
        snapshotEdges();
        checks.finish();
    }

    private static void dependenceEdges() {
        oneIsAWrite();
        sameCell();
        anyIterations();
        kinds();
        neededShift();
        orderOfDependences();
        mostDependences();
    }

    private static void groupEdges() {
        firstShift();
        greatestShift();
        oneLoopIsAllowed();
        shiftsAtTheLimit();
        barriers();
        orderWithinAStep();
        firstAndLastStep();
        mainPart();
        emptyMainPart();
        carriedDistance();
        stepsByTheirNumbers();
    }

    private static void arrangementEdges() {
        eachLoopAGroup();
        asManyAsPossible();
        greatestSumOfHits();
        fewestGroups();
        greatestSizes();
        noGroups();
    }

    private static void hitEdges() {
        earlierInTheStep();
        window();
        readsAndWrites();
        otherGroups();
        latestReference();
        noHits();
        allowedOrNot();
    }

    private static void runEdges() {
        expressionsOverflow();
        initialValuesOverflow();
        hashOverflows();
        presentSeed();
        withoutLoops();
        changedCells();
        statementsInOrder();
        valuesAreInitial();
    }

    private static void optionEdges() {
        atFirst();
        rangesOfOptions();
    }

    private static void loopEdges() {
        removedLoops();
        setBounds();
        operatorsFromLeftToRight();
        heights();
    }

    private static void snapshotEdges() {
        inPlaceOfAnEarlierOne();
        snapshotIsKept();
        snapshotOfNothing();
        loopsBarriersAndOptions();
    }

    private static int count(String text) {
        return Checks.with(text).dependenceCount(0, 1);
    }

    private static void oneIsAWrite() {
        checks.about("of which at least one is a write");
        checks.due("two reads", 0, count("for(0,9){b[i]=a[i]}for(0,9){c[i]=a[i]}"));
        checks.due("a write and a read", 1, count("for(0,9){a[i]=1}for(0,9){c[i]=a[i]}"));
        checks.due("a read and a write", 1, count("for(0,9){b[i]=a[i]}for(0,9){a[i]=1}"));
        checks.due("two writes", 1, count("for(0,9){a[i]=1}for(0,9){a[i]=1}"));
        checks.due("all four", 3, count("for(0,9){a[i]=a[i]}for(0,9){a[i]=a[i]}"));
        checks.due("of other arrays", 0, count("for(0,9){a[i]=b[i]}for(0,9){c[i]=d[i]}"));
    }

    private static void sameCell() {
        checks.about("there are an iteration of p and an iteration of q in which they refer to the same cell");
        for (int k = -9; k <= 9; k++) {
            String offset = k < 0 ? String.valueOf(k) : "+" + k;
            int due = k >= -2 && k <= 2 ? 1 : 0;
            checks.due("cells 10 to 12 and those by " + k, due, count("for(10,12){a[i]=1}for(10,12){b[i]=a[i" + offset + "]}"));
            due = k == 5 ? 1 : 0;
            checks.due("cell 10 and cell " + (5 + k), due, count("for(10,10){a[i]=1}for(5,5){b[i]=a[i" + offset + "]}"));
        }
        checks.due("the last cell and the first one of the next array", 0,
                count("for(30,30){a[i+9]=1}for(0,0){b[i-9]=1}"));
        LoopFuser fuser = Checks.with("for(0,4){a[i]=1}for(5,9){b[i]=a[i]}");
        checks.due("cells 0 to 4 and 5 to 9", 0, fuser.dependenceCount(0, 1));
        fuser.setBound(0, 1, 5);
        checks.due("cells 0 to 5 and 5 to 9", 1, fuser.dependenceCount(0, 1));
    }

    private static void anyIterations() {
        checks.about("A dependence may be between any iterations.");
        checks.due("the later iteration of the earlier loop", 1, count("for(20,22){a[i]=1}for(12,14){b[i]=a[i+8]}"));
        checks.due("the earlier iteration of the earlier loop", 1, count("for(2,3){a[i]=1}for(9,11){b[i]=a[i-8]}"));
        checks.due("loops of one iteration each", 1, count("for(30,30){a[i-9]=1}for(12,12){b[i]=a[i+9]}"));
        checks.due("its needed shift", 18,
                Checks.with("for(30,30){a[i-9]=1}for(12,12){b[i]=a[i+9]}").required(0, 1));
    }

    private static void kinds() {
        checks.about("Its kind is 0 if u is a write and v is a read, 1 if u is a read and v is a write, and 2 if both "
                + "are writes.");
        checks.due("write and read", 0, Checks.with("for(0,9){a[i]=1}for(0,9){c[i]=a[i]}").dependence(0, 1, 0, 1));
        checks.due("read and write", 1, Checks.with("for(0,9){c[i]=a[i]}for(0,9){a[i]=1}").dependence(0, 1, 0, 1));
        checks.due("write and write", 2, Checks.with("for(0,9){a[i]=1}for(0,9){a[i]=1}").dependence(0, 1, 0, 1));
    }

    private static void neededShift() {
        checks.about("Its needed shift is the offset of v minus the offset of u; it may be negative.");
        int[][] pairs = {{9, -9, -18}, {-9, 9, 18}, {0, -1, -1}, {0, 1, 1}, {3, 3, 0}, {-4, 0, 4}, {5, 0, -5}};
        for (int[] pair : pairs) {
            LoopFuser fuser = Checks.with("for(0,30){a[i" + signed(pair[0]) + "]=1}for(0,30){b[i]=a[i" + signed(pair[1]) + "]}");
            checks.due("needed shift of " + pair[0] + " and " + pair[1], pair[2], fuser.dependence(0, 1, 0, 2));
            checks.due("required of " + pair[0] + " and " + pair[1], pair[2], fuser.required(0, 1));
        }
        checks.due("the greatest of negative ones", -2,
                Checks.with("for(0,30){a[i+3]=1}for(0,30){b[i]=a[i-9]+a[i+1]+a[i]}").required(0, 1));
    }

    private static String signed(int offset) {
        return offset < 0 ? String.valueOf(offset) : "+" + offset;
    }

    private static void orderOfDependences() {
        checks.about("The dependences of two loops are ordered by u first and by v second.");
        LoopFuser fuser = Checks.with("for(0,20){a[i+1]=a[i];b[i]=1}for(0,20){c[i]=b[i+1]-a[i+2];a[i]=b[i-1]}");
        // u: a[i], a[i+1] written, b[i] written; v: b[i+1], a[i+2], c[i] written, b[i-1], a[i] written.
        int[][] due = {{0, 1, 0}, {0, 0, 1}, {0, 2, -1}, {1, 0, 1}, {1, 0, -1}};
        checks.due("dependences", due.length, fuser.dependenceCount(0, 1));
        for (int index = 0; index < due.length; index++) {
            for (int what = 0; what < 3; what++) {
                checks.due("dependence " + index + ", " + what, due[index][what], fuser.dependence(0, 1, index, what));
            }
        }
    }

    /** A text has room for 18 reads and 4 writes of a loop; all pairs of two such loops but those of reads count. */
    private static void mostDependences() {
        checks.about("For each reference u of p and each reference v of q to the same array");
        String most = "for(0,0){a[i]=a[i]*a[i]*a[i]*a[i]*a[i];a[i]=a[i]*a[i]*a[i]*a[i]*a[i]"
                + ";a[i]=a[i]*a[i]*a[i]*a[i];a[i]=a[i]*a[i]*a[i]*a[i]}";
        LoopFuser twins = Checks.with(most, most);
        checks.due("references of the later loop", 22, twins.referenceCount(1));
        checks.due("pairs of 22 and 22", 22 * 22 - 18 * 18, twins.dependenceCount(0, 1));
        checks.due("the last of them is of two writes", 2, twins.dependence(0, 1, 22 * 22 - 18 * 18 - 1, 1));
        checks.due("reads of both", 36, twins.reads(0, 0));
    }

    private static void firstShift() {
        checks.about("Its loops have shifts: that of its first loop is 0");
        LoopFuser fuser = Checks.with("for(0,9){a[i]=1}for(0,9){b[i]=a[i+5]}for(0,9){c[i]=b[i+4]}");
        for (int loop = 0; loop < 3; loop++) {
            checks.due("shift(0, " + loop + ")", 0, fuser.shift(0, loop));
            checks.due("shift(1, " + loop + ")", loop == 0 ? 0 : loop == 1 ? 5 : 9, fuser.shift(1, loop));
        }
        fuser.setOption(0, 8);
        checks.due("shift of the second loop", 5, fuser.shift(1, 1));
        checks.due("shift of the first loop of group 1", 0, fuser.shift(1, 2));
        fuser.removeLoop(0);
        checks.due("shift of a loop that is the first one now", 0, fuser.shift(1, 0));
        checks.due("shift of the loop behind it", 4, fuser.shift(1, 1));
    }

    private static void greatestShift() {
        checks.about("that of any other loop q is the greatest one of 0 and, for all loops p before q in the group that "
                + "have a dependence with q, of the shift of p plus the greatest needed shift of their dependences");
        shiftsDue("for(0,9){a[i]=1}for(0,9){b[i]=a[i-4]+a[i+3]+a[i+1]}", 0, 3);
        shiftsDue("for(0,9){a[i]=1}for(0,9){b[i]=a[i-1]}", 0, 0);
        shiftsDue("for(0,9){a[i]=1}for(0,9){b[i]=1}", 0, 0);
        shiftsDue("for(0,9){a[i]=1}for(0,9){b[i]=a[i+4]}for(0,9){c[i]=1}", 0, 4, 0);
        shiftsDue("for(0,9){a[i]=1}for(0,9){b[i]=a[i+4]}for(0,9){c[i]=b[i-3]}", 0, 4, 1);
        shiftsDue("for(0,9){a[i]=1}for(0,9){b[i]=a[i+4]}for(0,9){c[i]=b[i-4]}", 0, 4, 0);
        shiftsDue("for(0,9){a[i]=1}for(0,9){b[i]=a[i+4]}for(0,9){c[i]=b[i-5]}", 0, 4, 0);
        shiftsDue("for(0,9){a[i]=1}for(0,9){b[i]=a[i+4]}for(0,9){c[i]=b[i]+a[i+5]}", 0, 4, 5);
        shiftsDue("for(0,9){a[i]=1}for(0,9){b[i]=a[i+4]}for(0,9){c[i]=b[i+2]+a[i+5]}", 0, 4, 6);
        shiftsDue("for(0,4){a[i]=1}for(0,9){b[i]=a[i+5]}", 0, 0);
        shiftsDue("for(0,5){a[i]=1}for(0,9){b[i]=a[i+5]}", 0, 5);
    }

    private static void shiftsDue(String text, int... shifts) {
        LoopFuser fuser = Checks.with(text);
        checks.due("groups of " + text, 1, fuser.groupCount(1));
        for (int loop = 0; loop < shifts.length; loop++) {
            checks.due("shift of loop " + loop + " of " + text, shifts[loop], fuser.shift(1, loop));
        }
    }

    private static void oneLoopIsAllowed() {
        checks.about("A group is allowed if it consists of one loop");
        LoopFuser fuser = Checks.with(FAR);
        fuser.setOption(0, 0);
        for (int loop = 0; loop < 3; loop++) {
            fuser.setBarrier(loop, true);
            checks.due("loop " + loop + " with a barrier and limit 0", true, fuser.isAllowed(loop, loop));
        }
        checks.due("groups of one loop each", 3, fuser.groupCount(1));
    }

    private static void shiftsAtTheLimit() {
        checks.about("or if all its shifts are at most the limit");
        for (int limit = 0; limit <= 20; limit++) {
            for (int k = 0; k <= 9; k++) {
                LoopFuser fuser = Checks.with("for(0,9){a[i]=1}for(0,9){b[i]=a[i+" + k + "]}");
                fuser.setOption(0, limit);
                checks.due("shift " + k + " with limit " + limit, k <= limit, fuser.isAllowed(0, 1));
            }
        }
        LoopFuser far = Checks.with(FAR);
        far.setOption(0, 20);
        checks.due("shift 20 with limit 20", true, far.isAllowed(0, 2));
        checks.due("one group", 1, far.groupCount(1));
        checks.due("its last shift", 20, far.shift(1, 2));
        far.setOption(0, 19);
        checks.due("shift 20 with limit 19", false, far.isAllowed(0, 2));
        checks.due("shift 18 with limit 19", true, far.isAllowed(0, 1));
        checks.due("two groups", 2, far.groupCount(1));
        far.setOption(0, 17);
        checks.due("shift 18 with limit 17", false, far.isAllowed(0, 1));
        LoopFuser farther = Checks.with(FAR.replace("i-7", "i-6"));
        farther.setOption(0, 20);
        checks.due("shift 21 with limit 20", false, farther.isAllowed(0, 2));
    }

    private static void barriers() {
        checks.about("and none of its loops except the first one has a barrier");
        LoopFuser fuser = Checks.with("for(0,9){a[i]=1}for(0,9){b[i]=1}for(0,9){c[i]=1}for(0,9){d[i]=1}");
        for (int loop = 0; loop < 4; loop++) {
            fuser.setBarrier(loop, true);
            for (int first = 0; first < 4; first++) {
                for (int last = first; last < 4; last++) {
                    checks.due("loops " + first + " to " + last + ", barrier of " + loop, loop <= first || loop > last,
                            fuser.isAllowed(first, last));
                }
            }
            checks.due("groups with a barrier of " + loop, loop == 0 ? 1 : 2, fuser.groupCount(1));
            fuser.setBarrier(loop, false);
        }
    }

    private static void orderWithinAStep() {
        checks.about("in each time step, for all its loops in their order, an iteration with i = t - shift is executed if "
                + "the loop has such an iteration");
        LoopFuser same = Checks.with("for(0,9){a[i]=i*i}for(0,9){b[i]=a[i]}");
        LoopFuser shifted = Checks.with("for(0,9){a[i]=i*i}for(0,7){b[i]=a[i+2]}for(0,9){a[i]=b[i]}");
        for (int arrangement = 1; arrangement < 3; arrangement++) {
            checks.due("one group", 1, same.groupCount(arrangement));
            checks.due("b of the same step", 49, same.cell(arrangement, 1, 7));
            checks.due("b behind the last iteration", 2 + 70, same.cell(arrangement, 1, 10));
            checks.due("b[7] of a later step", 81, shifted.cell(arrangement, 1, 7));
            checks.due("b[8] stays", 2 + 56, shifted.cell(arrangement, 1, 8));
            checks.due("a[0] from b[0]", 4, shifted.cell(arrangement, 0, 0));
            checks.due("a[9] from b[9]", 2 + 63, shifted.cell(arrangement, 0, 9));
        }
        checks.due("shift of the last loop", 2, shifted.shift(1, 2));
    }

    private static void stepsDue(LoopFuser fuser, int first, int last, int mainFirst, int mainLast) {
        int[] due = {first, last, mainFirst, mainLast};
        for (int arrangement = 1; arrangement < 3; arrangement++) {
            checks.due("groups", 1, fuser.groupCount(arrangement));
            for (int what = 0; what < 4; what++) {
                checks.due("step " + what, due[what], fuser.step(arrangement, 0, what));
            }
        }
    }

    private static void firstAndLastStep() {
        checks.about("The first time step of the group is the least one in which an iteration is executed, and the last "
                + "one is the greatest one.");
        stepsDue(Checks.with("for(0,0){a[i]=1}"), 0, 0, 0, 0);
        stepsDue(Checks.with("for(30,30){a[i]=1}"), 30, 30, 30, 30);
        stepsDue(Checks.with("for(3,9){a[i]=1}for(2,5){b[i]=1}"), 2, 9, 3, 5);
        stepsDue(Checks.with("for(2,5){a[i]=1}for(3,9){b[i]=1}"), 2, 9, 3, 5);
        stepsDue(Checks.with("for(2,9){a[i]=1}for(3,4){b[i]=1}for(0,30){c[i]=1}"), 0, 30, 3, 4);
        LoopFuser far = Checks.with(FAR);
        far.setOption(0, 20);
        stepsDue(far, 0, 50, 20, 30);
        LoopFuser gap = Checks.with("for(0,1){a[i]=1}for(8,9){b[i]=1}");
        checks.due("first step with a gap", 0, gap.step(1, 0, 0));
        checks.due("last step with a gap", 9, gap.step(1, 0, 1));
    }

    private static void peeledDue(LoopFuser fuser, int loop, int before, int after) {
        for (int arrangement = 1; arrangement < 3; arrangement++) {
            checks.due("peeled before, loop " + loop, before, fuser.peeled(arrangement, loop, 0));
            checks.due("peeled after, loop " + loop, after, fuser.peeled(arrangement, loop, 1));
        }
        checks.due("peeled before, alone", 0, fuser.peeled(0, loop, 0));
        checks.due("peeled after, alone", 0, fuser.peeled(0, loop, 1));
    }

    private static void mainPart() {
        checks.about("The main part of the group consists of all time steps in which iterations of all its loops are "
                + "executed.");
        LoopFuser touching = Checks.with("for(0,5){a[i]=1}for(5,9){b[i]=1}");
        stepsDue(touching, 0, 9, 5, 5);
        peeledDue(touching, 0, 5, 0);
        peeledDue(touching, 1, 0, 4);
        LoopFuser whole = Checks.with("for(4,9){a[i]=1}for(4,9){b[i]=1}");
        stepsDue(whole, 4, 9, 4, 9);
        peeledDue(whole, 0, 0, 0);
        peeledDue(whole, 1, 0, 0);
        LoopFuser far = Checks.with(FAR);
        far.setOption(0, 20);
        peeledDue(far, 0, 20, 0);
        peeledDue(far, 1, 2, 18);
        peeledDue(far, 2, 0, 20);
    }

    private static void emptyMainPart() {
        checks.about("if the main part is empty, all of them are before it");
        LoopFuser apart = Checks.with("for(0,4){a[i]=1}for(5,9){b[i]=1}");
        peeledDue(apart, 0, 5, 0);
        peeledDue(apart, 1, 5, 0);
        LoopFuser turned = Checks.with("for(20,30){a[i]=1}for(0,0){b[i]=1}for(0,30){c[i]=1}");
        peeledDue(turned, 0, 11, 0);
        peeledDue(turned, 1, 1, 0);
        peeledDue(turned, 2, 31, 0);
        turned.setBound(0, 0, 0);
        peeledDue(turned, 0, 0, 30);
        peeledDue(turned, 1, 0, 0);
        peeledDue(turned, 2, 0, 30);
    }

    private static void carriedDue(int want, String text) {
        checks.due("carried distance of " + text, want, Checks.with(text).carried(1, 0));
    }

    private static void carriedDistance() {
        checks.about("the least positive difference of two time steps of the group in which the same cell of the same "
                + "array is referred to, by at least one write ... the distance, or 0 if there is none.");
        carriedDue(0, "for(0,30){a[i]=1}");
        carriedDue(0, "for(0,30){a[i]=a[i]}");
        carriedDue(0, "for(0,30){b[i]=a[i]+a[i-1]}");
        carriedDue(0, "for(5,5){a[i]=a[i-1]}");
        carriedDue(1, "for(5,6){a[i]=a[i-1]}");
        carriedDue(1, "for(5,6){a[i]=a[i+1]}");
        carriedDue(0, "for(0,17){a[i+9]=a[i-9]}");
        carriedDue(18, "for(0,18){a[i+9]=a[i-9]}");
        carriedDue(2, "for(0,9){a[i]=a[i-2]+a[i-3]}");
        carriedDue(3, "for(0,9){a[i]=b[i-1];a[i+3]=2}");
        carriedDue(0, "for(0,9){a[i]=1}for(0,9){b[i]=a[i+9]}");
        carriedDue(1, "for(0,9){a[i]=1}for(0,9){b[i]=a[i+9]+a[i+8]}");
        carriedDue(19, "for(0,30){e[i-9]=1;a[i+9]=1}for(0,30){b[i]=e[i-8]+a[i-9]}");
        carriedDue(0, "for(30,30){a[i+9]=1}for(0,0){b[i-9]=1}");
    }

    private static void stepsByTheirNumbers() {
        checks.about("Time steps are counted by their numbers, also where nothing is executed.");
        carriedDue(3, "for(0,1){a[i]=1}for(4,5){c[i]=a[i-3]}");
        LoopFuser fuser = Checks.with("for(0,1){b[i]=a[i]}for(4,5){c[i]=a[i-3]}");
        checks.due("hits with window 3", 1, fuser.hits(0, 1));
        checks.due("distance", 3, fuser.reads(1, 2));
        fuser.setOption(1, 2);
        checks.due("hits with window 2", 0, fuser.hits(0, 1));
        checks.due("distance", 0, fuser.reads(1, 2));
        LoopFuser peeled = Checks.with("for(0,1){a[i]=1}for(8,9){b[i]=1}for(0,9){c[i]=1}");
        checks.due("peeled of all", 10, peeled.peeled(1, 2, 0));
    }

    private static void sizesDue(String what, LoopFuser fuser, int arrangement, int... sizes) {
        checks.due(what + ": groups of arrangement " + arrangement, sizes.length, fuser.groupCount(arrangement));
        int loop = 0;
        for (int number = 0; number < sizes.length; number++) {
            for (int n = 0; n < sizes[number]; n++) {
                checks.due(what + ": group of loop " + loop, number, fuser.groupOf(arrangement, loop));
                loop++;
            }
        }
    }

    private static void eachLoopAGroup() {
        checks.about("In arrangement 0 each loop is a group.");
        LoopFuser fuser = new LoopFuser();
        for (int count = 1; count <= 6; count++) {
            Checks.add(fuser, "for(0,9){a[i]=a[i]}");
            checks.due("groups of " + count, count, fuser.groupCount(0));
            checks.due("group of the last one", count - 1, fuser.groupOf(0, count - 1));
            checks.due("group of the first one", 0, fuser.groupOf(0, 0));
        }
    }

    private static void asManyAsPossible() {
        checks.about("Arrangement 1 is found from the first loop on: each group takes as many loops as possible such that "
                + "it is allowed.");
        LoopFuser six = Checks.with("for(0,9){a[i]=1}".repeat(6));
        sizesDue("all six", six, 1, 6);
        six.setBarrier(0, true);
        sizesDue("all six, barrier of the first", six, 1, 6);
        six.setBarrier(5, true);
        sizesDue("barrier of the last", six, 1, 5, 1);
        six.setBarrier(1, true);
        sizesDue("barriers of three", six, 1, 1, 4, 1);
        LoopFuser chain = Checks.with("for(0,9){a[i]=1}for(0,9){b[i]=a[i+2]}for(0,9){c[i]=b[i+2]}for(0,9){d[i]=c[i+2]}");
        sizesDue("shifts to 6", chain, 1, 4);
        chain.setOption(0, 5);
        sizesDue("shifts to 4", chain, 1, 3, 1);
        chain.setOption(0, 3);
        sizesDue("shifts to 2", chain, 1, 2, 2);
        chain.setOption(0, 1);
        sizesDue("no shifts", chain, 1, 1, 1, 1, 1);
        // The last loop alone could stand with the first one, but the loop between needs too much.
        LoopFuser between = Checks.with("for(0,9){a[i]=1}for(0,9){b[i]=a[i+2]}for(0,9){c[i]=1}");
        between.setOption(0, 1);
        sizesDue("a loop that needs too much", between, 1, 1, 2);
    }

    private static void greatestSumOfHits() {
        checks.about("Arrangement 2 consists of allowed groups such that the sum of the hits of all groups is greatest");
        LoopFuser fuser = Checks.with("for(0,20){a[i-9]=1}for(0,9){b[i]=2}for(0,9){c[i]=a[i+1]+b[i]}");
        sizesDue("hits of the last two", fuser, 2, 1, 2);
        checks.due("their hits", 10, fuser.reads(2, 1));
        fuser.setOption(0, 10);
        sizesDue("hits of all three", fuser, 2, 3);
        fuser.setBarrier(2, true);
        sizesDue("no group is allowed over a barrier", fuser, 2, 2, 1);
        checks.due("no hits", 0, fuser.reads(2, 1));
        // The shift of 4 costs 4 of the hits of d, but no hit is lost by the fusion of all.
        LoopFuser shifted = Checks.with("for(0,9){a[i]=1;d[i]=1}for(0,9){b[i]=d[i+4]}for(0,9){c[i]=b[i]}");
        shifted.setOption(1, 0);
        checks.due("hits of the last two", 10, shifted.hits(1, 2));
        checks.due("hits of all", 16, shifted.hits(0, 2));
        sizesDue("hits with a shift", shifted, 2, 3);
    }

    private static void fewestGroups() {
        checks.about("of several, it is the one with the fewest groups");
        LoopFuser same = Checks.with("for(0,9){a[i]=1}".repeat(6));
        sizesDue("without hits", same, 2, 6);
        same.setBarrier(3, true);
        sizesDue("with a barrier", same, 2, 3, 3);
        LoopFuser two = Checks.with("for(0,9){b[i]=a[i]}for(0,9){c[i]=a[i]}for(0,9){d[i]=1}");
        sizesDue("with equal hits", two, 2, 3);
    }

    private static void greatestSizes() {
        checks.about("and of several of these, the one whose sequence of group sizes is lexicographically greatest");
        LoopFuser tie = Checks.with("for(0,20){a[i-9]=1}for(0,9){b[i]=2}for(0,9){c[i]=a[i+1]}");
        sizesDue("2, 1 and 1, 2", tie, 2, 2, 1);
        // Loop 0 and loop 3 may not stand together: 3 and 1, 2 and 2, 1 and 3 have no hits.
        LoopFuser four = Checks.with("for(0,20){a[i-9]=1}for(0,9){b[i]=2}for(0,9){c[i]=2}for(0,9){d[i]=a[i+1]}");
        sizesDue("3, 1 and 2, 2 and 1, 3", four, 2, 3, 1);
        // Loops 0 and 2 and loops 3 and 5 may not stand together.
        LoopFuser six = Checks.with("for(0,20){a[i-9]=1}for(0,9){b[i]=2}for(0,9){c[i]=a[i+1]}",
                "for(0,20){d[i-9]=1}for(0,9){b[i]=2}for(0,9){c[i]=d[i+1]}");
        sizesDue("2, 3, 1 ahead of 2, 2, 2 and 1, 4, 1", six, 2, 2, 3, 1);
    }

    private static void noGroups() {
        checks.about("Returns the number, 0 without loops.");
        LoopFuser fuser = Checks.with("for(0,9){a[i]=1}");
        for (int arrangement = 0; arrangement < 3; arrangement++) {
            checks.due("groups of a new object", 0, new LoopFuser().groupCount(arrangement));
            checks.due("groups of one loop", 1, fuser.groupCount(arrangement));
        }
        fuser.removeLoop(0);
        for (int arrangement = 0; arrangement < 3; arrangement++) {
            checks.due("groups after the last loop is removed", 0, fuser.groupCount(arrangement));
        }
    }

    private static void hitsDue(int hits, int farthest, int window, String text) {
        LoopFuser fuser = Checks.with(text);
        fuser.setOption(1, window);
        String name = text + " with window " + window;
        checks.due("hits of " + name, hits, fuser.hits(0, fuser.loopCount() - 1));
        checks.due("groups of " + name, 1, fuser.groupCount(1));
        checks.due("hits in the group of " + name, hits, fuser.reads(1, 1));
        checks.due("greatest distance of " + name, farthest, fuser.reads(1, 2));
    }

    private static void earlierInTheStep() {
        checks.about("earlier in the same time step ... the references of an iteration are made in the order of their "
                + "numbers");
        hitsDue(0, 0, 0, "for(0,9){a[i]=a[i]}");
        hitsDue(10, 0, 0, "for(0,9){a[i]=1;b[i]=a[i]}");
        hitsDue(0, 0, 0, "for(0,9){b[i]=a[i];a[i]=1}");
        hitsDue(10, 0, 0, "for(0,9){b[i]=a[i]*a[i]}");
        hitsDue(10, 0, 0, "for(0,9){b[i]=a[i]}for(0,9){c[i]=a[i]}");
        hitsDue(10, 0, 0, "for(0,9){a[i]=1}for(0,9){c[i]=a[i]}");
        hitsDue(0, 0, 0, "for(0,9){c[i]=a[i]}for(0,9){a[i]=1}");
        hitsDue(0, 0, 0, "for(0,9){b[i]=a[i]+c[i]}");
        hitsDue(0, 0, 0, "for(0,9){b[i]=a[i]+a[i+1]}");
    }

    private static void window() {
        checks.about("or in one of the time steps before it, as many as the window");
        for (int window = 0; window <= 9; window++) {
            for (int k = 1; k <= 9; k++) {
                hitsDue(k <= window ? 20 - k : 0, k <= window ? k : 0, window, "for(0,19){b[i]=a[i]+a[i-" + k + "]}");
                hitsDue(k <= window ? 20 - k : 0, k <= window ? k : 0, window, "for(0,19){a[i]=a[i-" + k + "]}");
            }
            hitsDue(0, 0, window, "for(0,19){b[i]=a[i+1]+a[i-9]}");
        }
        hitsDue(1, 9, 9, "for(0,9){a[i]=a[i-9]}");
        hitsDue(0, 0, 9, "for(0,8){a[i]=a[i-9]}");
    }

    private static void readsAndWrites() {
        checks.about("a read is a hit if the same cell of the same array was referred to, by a read or a write");
        hitsDue(9, 1, 1, "for(0,9){b[i]=a[i]+a[i-1]}");
        hitsDue(9, 1, 1, "for(0,9){a[i]=a[i-1]}");
        hitsDue(0, 0, 9, "for(0,9){a[i]=1;a[i-1]=2}");
        hitsDue(0, 0, 9, "for(0,9){a[i]=b[i-1]}");
        hitsDue(0, 0, 9, "for(30,30){a[i+9]=b[i]}for(0,0){c[i]=b[i-9]}");
    }

    private static void otherGroups() {
        checks.about("References made in other groups do not count.");
        LoopFuser fuser = Checks.with("for(0,9){a[i]=a[i-1]}for(0,9){b[i]=a[i]}");
        checks.due("hits in one group", 19, fuser.reads(1, 1));
        checks.due("hits in two groups", 9, fuser.reads(0, 1));
        fuser.setBarrier(1, true);
        for (int arrangement = 0; arrangement < 3; arrangement++) {
            checks.due("hits behind a barrier", 9, fuser.reads(arrangement, 1));
            checks.due("all reads", 20, fuser.reads(arrangement, 0));
        }
        checks.due("hits of the later loop", 0, fuser.hits(1, 1));
        // The group ends with step 0, and the next one begins with it.
        LoopFuser touching = Checks.with("for(0,0){a[i]=1}for(0,0){b[i]=a[i]}");
        checks.due("hits of touching groups", 0, touching.reads(0, 1));
    }

    private static void latestReference() {
        checks.about("The distance of a hit is the time step of the read minus the time step of the latest such reference "
                + "before it.");
        hitsDue(17, 2, 9, "for(0,9){b[i]=a[i]+a[i-2]+a[i-3]}");
        hitsDue(18, 1, 9, "for(0,9){b[i]=a[i]+a[i-1]+a[i-2]}");
        hitsDue(7, 3, 3, "for(0,9){b[i]=a[i]+a[i-3]}");
        hitsDue(20, 0, 9, "for(0,9){a[i]=1;b[i]=a[i]+a[i]}");
        // Each a[i-4] comes four steps after the write of its cell, but one step after the read a[i-3].
        hitsDue(16, 3, 3, "for(0,9){a[i]=a[i-3]+a[i-4]}");
    }

    private static void noHits() {
        checks.about("2 for the greatest distance of a hit, 0 if there are no hits");
        for (int arrangement = 0; arrangement < 3; arrangement++) {
            for (int what = 0; what < 3; what++) {
                checks.due("reads of a new object", 0, new LoopFuser().reads(arrangement, what));
            }
            LoopFuser fuser = Checks.with("for(0,9){a[i]=b[i]+c[i]}");
            checks.due("all reads", 20, fuser.reads(arrangement, 0));
            checks.due("hits", 0, fuser.reads(arrangement, 1));
            checks.due("greatest distance without hits", 0, fuser.reads(arrangement, 2));
        }
        LoopFuser far = Checks.with("for(0,9){a[i]=a[i-3]}for(0,9){b[i]=1}");
        checks.due("the greatest of groups, the last without hits", 3, far.reads(0, 2));
        far.setOption(1, 2);
        checks.due("no hits any more", 0, far.reads(0, 2));
    }

    private static void allowedOrNot() {
        checks.about("Returns the number of hits of a group of consecutive loops, allowed or not.");
        LoopFuser fuser = Checks.with("for(0,9){a[i]=1}for(0,9){b[i]=a[i+3]}");
        checks.due("hits, allowed", 7, fuser.hits(0, 1));
        fuser.setOption(0, 2);
        checks.due("not allowed", false, fuser.isAllowed(0, 1));
        checks.due("hits above the limit", 7, fuser.hits(0, 1));
        fuser.setOption(0, 9);
        fuser.setBarrier(1, true);
        checks.due("not allowed", false, fuser.isAllowed(0, 1));
        checks.due("hits over a barrier", 7, fuser.hits(0, 1));
        LoopFuser far = Checks.with("for(0,30){a[i-9]=1}for(0,30){b[i-9]=a[i+9]}for(0,30){c[i-9]=b[i+9]}",
                "for(0,30){d[i-9]=c[i+9]}for(0,30){e[i-9]=d[i+9]}");
        checks.due("hits of the longest shifts: 13 of each loop behind the first", 52, far.hits(0, 4));
    }

    private static void expressionsOverflow() {
        checks.about("with +, - and *, computed with overflow");
        LoopFuser fuser = Checks.with("for(0,0){b[i]=a[i]+1;c[i]=a[i]-1;d[i]=a[i]*a[i];e[i]=0-a[i]}");
        int[][] due = {{GREATEST, LEAST, GREATEST - 1, 1, -GREATEST}, {LEAST, LEAST + 1, GREATEST, 0, LEAST},
            {65536, 65537, 65535, 0, -65536}, {46341, 46342, 46340, -2147479015, -46341}, {-1, 0, -2, 1, 1}};
        for (int[] row : due) {
            fuser.setOption(2, row[0]);
            for (int statement = 0; statement < 4; statement++) {
                checks.due("value " + statement + ", seed " + row[0], row[statement + 1], fuser.value(0, statement, 0));
                for (int arrangement = 0; arrangement < 3; arrangement++) {
                    checks.due("cell " + statement + ", seed " + row[0], row[statement + 1],
                            fuser.cell(arrangement, statement + 1, 0));
                }
            }
        }
    }

    private static void initialValuesOverflow() {
        checks.about("cell k of the array with the number x contains (x + 1) * seed + 7 * k, computed with overflow");
        LoopFuser fuser = new LoopFuser();
        fuser.setOption(2, GREATEST);
        checks.due("a[0]", GREATEST, fuser.cell(0, 0, 0));
        checks.due("a[1]", LEAST + 6, fuser.cell(1, 0, 1));
        checks.due("b[0]", -2, fuser.cell(2, 1, 0));
        checks.due("e[39]", GREATEST - 4 + 273, fuser.cell(0, 4, 39));
        fuser.setOption(2, LEAST);
        checks.due("a[-1]", GREATEST - 6, fuser.cell(0, 0, -1));
        checks.due("b[-9]", -63, fuser.cell(1, 1, -9));
        checks.due("c[0]", LEAST, fuser.cell(2, 2, 0));
        checks.due("d[39]", 273, fuser.cell(0, 3, 39));
        fuser.setOption(2, 0);
        checks.due("seed 0, a[0]", 0, fuser.cell(0, 0, 0));
        checks.due("seed 0, e[39]", 273, fuser.cell(0, 4, 39));
        checks.due("seed 0, e[-9]", -63, fuser.cell(0, 4, -9));
    }

    private static void hashOverflows() {
        checks.about("h becomes 31 * h plus the content of the cell, with overflow");
        LoopFuser fuser = zeros();
        int h = 7;
        for (int n = 0; n < 5 * 49; n++) {
            h = 31 * h;
        }
        for (int arrangement = 0; arrangement < 3; arrangement++) {
            checks.due("hash of zeros", h, fuser.run(arrangement));
        }
        Checks.add(fuser, "for(30,30){e[i+9]=5}");
        checks.due("the last cell counts once", h + 5, fuser.run(0));
        fuser.removeLoop(fuser.loopCount() - 1);
        Checks.add(fuser, "for(29,29){e[i+9]=5}");
        checks.due("the cell ahead of it counts 31 times", h + 155, fuser.run(0));
        LoopFuser seeds = new LoopFuser();
        for (int seed : new int[] {LEAST, -1, 0, 1, GREATEST}) {
            seeds.setOption(2, seed);
            h = 7;
            for (int x = 0; x < 5; x++) {
                for (int k = -9; k <= 39; k++) {
                    h = 31 * h + (x + 1) * seed + 7 * k;
                }
            }
            checks.due("hash of initial values, seed " + seed, h, seeds.run(0));
        }
    }

    /** A program that makes all cells 0. */
    private static LoopFuser zeros() {
        return Checks.with("for(0,30){a[i-9]=0;a[i+9]=0;b[i-9]=0;b[i+9]=0}",
                "for(0,30){c[i-9]=0;c[i+9]=0;d[i-9]=0;d[i+9]=0}for(0,30){e[i-9]=0;e[i+9]=0}");
    }

    private static void presentSeed() {
        checks.about("The contents are those of the present seed");
        LoopFuser fuser = Checks.with("for(0,9){b[i]=a[i]}");
        for (int arrangement = 0; arrangement < 3; arrangement++) {
            fuser.setOption(2, 5);
            checks.due("without a run", 5 + 14, fuser.cell(arrangement, 1, 2));
            fuser.run(arrangement);
            fuser.setOption(2, 6);
            checks.due("after a run with another seed", 6 + 14, fuser.cell(arrangement, 1, 2));
            checks.due("of a cell not written", 30, fuser.cell(arrangement, 4, 0));
            fuser.setOption(2, 0);
            checks.due("changed cells of seed 0", 0, fuser.changed(arrangement));
            fuser.setOption(2, 1);
            checks.due("changed cells of seed 1", 10, fuser.changed(arrangement));
        }
    }

    private static void withoutLoops() {
        checks.about("without loops a run leaves the initial values");
        LoopFuser fuser = Checks.with("for(0,9){b[i]=a[i]}");
        int hash = new LoopFuser().run(0);
        checks.due("another hash with a loop", false, fuser.run(0) == hash);
        fuser.removeLoop(0);
        for (int arrangement = 0; arrangement < 3; arrangement++) {
            checks.due("run without loops", hash, fuser.run(arrangement));
            checks.due("changed without loops", 0, fuser.changed(arrangement));
            checks.due("cell without loops", 2 + 35, fuser.cell(arrangement, 1, 5));
        }
    }

    private static void changedCells() {
        checks.about("Returns how many cells have another content than initially after a run.");
        LoopFuser all = zeros();
        all.setOption(2, 1000);
        for (int arrangement = 0; arrangement < 3; arrangement++) {
            checks.due("all cells", 245, all.changed(arrangement));
        }
        all.setOption(2, 0);
        checks.due("all but cell 0 of each array", 240, all.changed(0));
        checks.due("no cells", 0, Checks.with("for(0,30){a[i]=a[i]}").changed(0));
        checks.due("one cell", 1, Checks.with("for(0,0){a[i]=0}").changed(0));
        checks.due("the same content", 0, Checks.with("for(0,0){a[i]=1}").changed(0));
        checks.due("a content changed and changed back", 0, Checks.with("for(0,0){a[i]=0;a[i]=1}").changed(0));
    }

    private static void statementsInOrder() {
        checks.about("In an iteration of the loop, for one value of i, its statements are executed in their order.");
        LoopFuser fuser = Checks.with("for(0,3){a[i]=i;b[i]=a[i]+10;a[i]=b[i]*2;c[i]=a[i]-b[i]}");
        for (int i = 0; i <= 3; i++) {
            checks.due("a[" + i + "]", 2 * (i + 10), fuser.cell(0, 0, i));
            checks.due("b[" + i + "]", i + 10, fuser.cell(0, 1, i));
            checks.due("c[" + i + "]", i + 10, fuser.cell(0, 2, i));
        }
        LoopFuser onwards = Checks.with("for(1,30){a[i]=a[i-1]+1}");
        checks.due("iterations in their order", 31, onwards.cell(0, 0, 30));
    }

    private static void valuesAreInitial() {
        checks.about("for a value of i, with the initial values of all cells");
        LoopFuser fuser = Checks.with("for(2,5){a[i]=3;b[i]=a[i]}for(2,5){c[i]=a[i]+b[i]}");
        fuser.run(0);
        for (int i = 2; i <= 5; i++) {
            checks.due("value behind a write, " + i, 1 + 7 * i, fuser.value(0, 1, i));
            checks.due("value of the later loop, " + i, 3 + 14 * i, fuser.value(1, 0, i));
        }
        fuser.setBound(1, 1, 30);
        checks.due("value of the last iteration", 3 + 14 * 30, fuser.value(1, 0, 30));
        fuser.setBound(1, 0, 0);
        checks.due("value of the first iteration", 3, fuser.value(1, 0, 0));
    }

    private static void atFirst() {
        checks.about("Option 0 is the limit, 0 to 20, at first 9. Option 1 is the window, 0 to 9, at first 3. Option 2 is "
                + "the seed, any int, at first 1. A loop has a barrier or not, at first not.");
        LoopFuser fuser = Checks.with("for(0,9){a[i]=1}for(0,9){b[i]=a[i+9]}for(0,20){c[i-9]=1}for(0,9){d[i]=c[i+1]}");
        checks.due("shift 9 at first", true, fuser.isAllowed(0, 1));
        checks.due("shift 10 at first", false, fuser.isAllowed(2, 3));
        checks.due("distance 3 at first", 7, Checks.with("for(0,9){a[i]=a[i-3]}").hits(0, 0));
        checks.due("distance 4 at first", 0, Checks.with("for(0,9){a[i]=a[i-4]}").hits(0, 0));
        checks.due("a[0] at first", 1, fuser.value(1, 0, 0) - 63);
        for (int loop = 0; loop < 4; loop++) {
            checks.due("barrier of loop " + loop, false, fuser.setBarrier(loop, loop % 2 == 0));
        }
        checks.due("limit", 9, fuser.setOption(0, 9));
        checks.due("window", 3, fuser.setOption(1, 3));
        checks.due("seed", 1, fuser.setOption(2, 1));
    }

    private static void rangesOfOptions() {
        checks.about("Sets an option. ... Returns the previous value.");
        LoopFuser fuser = new LoopFuser();
        int[] previous = {9, 3, 1};
        int[][] values = {{0, 20, 1, 19}, {0, 9, 1, 8}, {LEAST, GREATEST, 0, -1, 1}};
        for (int option = 0; option < 3; option++) {
            for (int value : values[option]) {
                checks.due("setOption(" + option + ", " + value + ")", previous[option], fuser.setOption(option, value));
                previous[option] = value;
                for (int other = 0; other < 3; other++) {
                    checks.due("option " + other, previous[other], fuser.setOption(other, previous[other]));
                }
            }
        }
    }

    private static void removedLoops() {
        checks.about("Removes a loop with its barrier. The numbers of the later ones decrease by 1.");
        for (int removed = 0; removed < 6; removed++) {
            LoopFuser fuser = new LoopFuser();
            for (int loop = 0; loop < 6; loop++) {
                Checks.add(fuser, "for(" + loop + "," + (20 + loop) + "){b[i]=a[i+" + loop + "]}");
            }
            fuser.setBarrier(removed, true);
            checks.due("loops that remain", 5, fuser.removeLoop(removed));
            checks.due("loopCount", 5, fuser.loopCount());
            for (int loop = 0; loop < 5; loop++) {
                int old = loop < removed ? loop : loop + 1;
                checks.due("first of " + loop + " without " + removed, old, fuser.bound(loop, 0));
                checks.due("last of " + loop + " without " + removed, 20 + old, fuser.bound(loop, 1));
                checks.due("offset of " + loop + " without " + removed, old, fuser.reference(loop, 0, 1));
                checks.due("barrier of " + loop + " without " + removed, false, fuser.setBarrier(loop, false));
            }
        }
        LoopFuser fuser = Checks.with("for(0,9){a[i]=1}for(1,9){a[i]=1}for(2,9){a[i]=1}");
        fuser.setBarrier(2, true);
        fuser.removeLoop(1);
        checks.due("the barrier of a later loop goes along", true, fuser.setBarrier(1, true));
        checks.due("the loop removed last", 1, fuser.removeLoop(1));
        checks.due("the only loop", 0, fuser.removeLoop(0));
        Checks.add(fuser, "for(0,9){a[i]=1}for(1,9){a[i]=1}");
        checks.due("no barrier is left", false, fuser.setBarrier(1, false));
    }

    private static void setBounds() {
        checks.about("Sets the first or the last value of i of a loop. ... Returns the previous value.");
        LoopFuser fuser = Checks.with("for(0,30){a[i]=1}for(9,9){b[i]=1}");
        checks.due("first to the last value", 0, fuser.setBound(0, 0, 30));
        checks.due("first from 30 to 0", 30, fuser.setBound(0, 0, 0));
        checks.due("last to the first value", 30, fuser.setBound(0, 1, 0));
        checks.due("last from 0 to 30", 0, fuser.setBound(0, 1, 30));
        checks.due("one iteration more", 9, fuser.setBound(1, 0, 8));
        checks.due("last value of the loop with one iteration more", 9, fuser.bound(1, 1));
        checks.due("first", 0, fuser.bound(0, 0));
        checks.due("last", 30, fuser.bound(0, 1));
        checks.due("changed cells: a[0] holds 1 already", 32, fuser.changed(0));
    }

    private static void operatorsFromLeftToRight() {
        checks.about("The operators of a sum or a product are applied from left to right.");
        checks.due("9-5-2", 2, value("9-5-2"));
        checks.due("9-5+2", 6, value("9-5+2"));
        checks.due("9-(5+2)", 2, value("9-(5+2)"));
        checks.due("2+3*4", 14, value("2+3*4"));
        checks.due("2*3+4", 10, value("2*3+4"));
        checks.due("(2+3)*4", 20, value("(2+3)*4"));
        checks.due("2-3*4-5*(6-7)", -5, value("2-3*4-5*(6-7)"));
        LoopFuser fuser = Checks.with("for(0,0){a[i]=1+2-3*4*(5+6-7);b[i]=1;c[i]=1*2}");
        int[][] due = {{2, 2, 2}, {0, 0, 0}, {0, 0, 1}};
        for (int statement = 0; statement < 3; statement++) {
            for (int operator = 0; operator < 3; operator++) {
                checks.due("operators", due[statement][operator], fuser.operators(0, statement, operator));
            }
        }
    }

    private static int value(String expression) {
        return Checks.with("for(0,0){a[i]=" + expression + "}").value(0, 0, 0);
    }

    private static void heights() {
        checks.about("1 for a number, i or a reference, and otherwise 1 more than the greater height of both operands of "
                + "the operator that is applied last; parentheses do not count for heights");
        String[] expressions = {"0", "99", "i", "a[i-9]", "(i)", "(((0)))", "1+1", "((1)+(1))", "1+1+1", "1+(1+1)",
            "1*1+1*1", "1+1*1", "1+1*1*1", "(1+1)*(1+1)", "1-(1-(1-(1-1)))", "1+1+1+1+1", "(1+1+1+1)*(1-1)"};
        int[] due = {1, 1, 1, 1, 1, 1, 2, 2, 3, 3, 3, 3, 4, 3, 5, 5, 5};
        for (int n = 0; n < due.length; n++) {
            checks.due("height of " + expressions[n], due[n],
                    Checks.with("for(0,0){a[i]=" + expressions[n] + "}").height(0, 0));
        }
    }

    private static void inPlaceOfAnEarlierOne() {
        checks.about("Saves the loops, their barriers and the options, in place of an earlier snapshot.");
        LoopFuser fuser = new LoopFuser();
        for (int count = 0; count <= 6; count++) {
            fuser.setOption(0, count);
            fuser.save();
            fuser.setOption(0, 20);
            if (count < 6) {
                Checks.add(fuser, "for(" + count + ",9){a[i]=1}");
            }
        }
        for (int time = 0; time < 2; time++) {
            fuser.removeLoop(0);
            fuser.restore();
            checks.due("loops of the last snapshot", 6, fuser.loopCount());
            checks.due("limit of the last snapshot", 6, fuser.setOption(0, 0));
        }
        fuser.restore();
        for (int loop = 0; loop < 6; loop++) {
            checks.due("first value of loop " + loop, loop, fuser.bound(loop, 0));
        }
    }

    private static void snapshotIsKept() {
        checks.about("Restores what was saved; the snapshot is kept.");
        LoopFuser fuser = Checks.with("for(1,9){a[i]=b[i]}for(2,9){b[i]=a[i]}");
        fuser.save();
        String saved = Picture.ofProgram(fuser);
        for (int time = 0; time < 3; time++) {
            fuser.setBound(0, 0, 3 + time);
            fuser.setBarrier(1, true);
            fuser.setOption(2, time);
            fuser.removeLoop(time % 2);
            Checks.add(fuser, "for(5,5){e[i]=5}");
            fuser.restore();
            checks.due("restored, time " + time, true, saved.equals(Picture.ofProgram(fuser)));
        }
        fuser.restore();
        fuser.restore();
        checks.due("restored twice", true, saved.equals(Picture.ofProgram(fuser)));
    }

    private static void snapshotOfNothing() {
        checks.about("Restores what was saved");
        LoopFuser fuser = new LoopFuser();
        fuser.save();
        Checks.add(fuser, "for(1,9){a[i]=b[i]}".repeat(6));
        fuser.setBarrier(5, true);
        fuser.restore();
        checks.due("loops", 0, fuser.loopCount());
        for (int arrangement = 0; arrangement < 3; arrangement++) {
            checks.due("groups", 0, fuser.groupCount(arrangement));
            checks.due("changed", 0, fuser.changed(arrangement));
        }
        Checks.add(fuser, "for(1,9){a[i]=b[i]}".repeat(6));
        checks.due("six loops again", 6, fuser.loopCount());
        checks.due("no barrier comes back", false, fuser.setBarrier(5, false));
    }

    private static void loopsBarriersAndOptions() {
        checks.about("Saves the loops, their barriers and the options");
        LoopFuser fuser = Checks.with("for(1,9){a[i]=b[i]}for(2,9){b[i]=a[i]}");
        Checks.type(fuser, "for(x");
        checks.fails("read of a fault", IllegalArgumentException.class, fuser::read);
        Checks.type(fuser, "for(3,4){");
        fuser.save();
        Checks.type(fuser, "c[i]=5}");
        fuser.restore();
        checks.due("the buffer is not saved", 16, fuser.append(0));
        checks.due("the fault position is not restored", 4, fuser.faultPosition());
        checks.due("read of the buffer", 1, fuser.read());
        fuser.restore();
        checks.due("loops", 2, fuser.loopCount());
        checks.due("the fault position of the later read", -1, fuser.faultPosition());
    }
}
