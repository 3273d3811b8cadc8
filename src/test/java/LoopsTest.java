/** Promises 5 to 16: the loops, their statements and references, and the options. */
final class LoopsTest {
    private static final Checks checks = new Checks();
    private static final Class<IllegalArgumentException> ARGUMENT = IllegalArgumentException.class;
    private static final Class<IndexOutOfBoundsException> INDEX = IndexOutOfBoundsException.class;

    public static void main(String[] args) {
        promise5RemoveLoop();
        promise6LoopCount();
        promise7Bound();
        promise8SetBound();
        promise9StatementCount();
        promise10ReferenceCount();
        promise11Reference();
        promise12Operators();
        promise13Height();
        promise14Value();
        promise14LongValues();
        promise15SetOption();
        promise16SetBarrier();
        checks.finish();
    }

    private static LoopFuser three() {
        return Checks.with("for(1,10){a[i]=b[i]}for(2,20){b[i]=1;c[i+1]=a[i-2]*b[i]}for(3,30){d[i-9]=e[i+9]+i}");
    }

    private static void promise5RemoveLoop() {
        LoopFuser fuser = three();
        fuser.setBarrier(1, true);
        checks.fails("removeLoop(-1)", INDEX, () -> fuser.removeLoop(-1));
        checks.fails("removeLoop(3)", INDEX, () -> fuser.removeLoop(3));
        checks.due("loops after wrong removeLoop", 3, fuser.loopCount());
        checks.due("removeLoop of the first", 2, fuser.removeLoop(0));
        checks.due("first value of the later loop", 2, fuser.bound(0, 0));
        checks.due("statements of the later loop", 2, fuser.statementCount(0));
        checks.due("first value of the last loop", 3, fuser.bound(1, 0));
        checks.due("the barrier goes along", true, fuser.setBarrier(0, true));
        checks.due("no barrier comes to the last loop", false, fuser.setBarrier(1, false));
        checks.due("removeLoop with a barrier", 1, fuser.removeLoop(0));
        checks.due("the barrier is removed", false, fuser.setBarrier(0, false));
        Checks.add(fuser, "for(4,4){a[i]=1}");
        checks.due("a new loop behind removed ones", 4, fuser.bound(1, 0));
        checks.due("removeLoop of the last", 1, fuser.removeLoop(1));
        checks.due("removeLoop of the only one", 0, fuser.removeLoop(0));
        checks.fails("removeLoop without loops", INDEX, () -> fuser.removeLoop(0));
        LoopFuser six = Checks.with("for(0,0){a[i]=1}for(1,1){a[i]=1}for(2,2){a[i]=1}",
                "for(3,3){a[i]=1}for(4,4){a[i]=1}for(5,5){a[i]=1}");
        six.removeLoop(1);
        for (int n = 0; n < 5; n++) {
            checks.due("loop " + n + " of six without the second", n == 0 ? 0 : n + 1, six.bound(n, 0));
        }
        LoopFuser barred = three();
        barred.setBarrier(2, true);
        barred.removeLoop(2);
        Checks.add(barred, "for(4,4){a[i]=1}");
        checks.due("a new loop has no barrier", false, barred.setBarrier(2, true));
    }

    private static void promise6LoopCount() {
        LoopFuser fuser = new LoopFuser();
        for (int n = 1; n <= 6; n++) {
            Checks.add(fuser, "for(0,0){a[i]=1}");
            checks.due("loopCount", n, fuser.loopCount());
        }
        fuser.removeLoop(3);
        checks.due("loopCount after removeLoop", 5, fuser.loopCount());
    }

    private static void promise7Bound() {
        LoopFuser fuser = three();
        checks.due("bound(0, 0)", 1, fuser.bound(0, 0));
        checks.due("bound(0, 1)", 10, fuser.bound(0, 1));
        checks.due("bound(2, 0)", 3, fuser.bound(2, 0));
        checks.due("bound(2, 1)", 30, fuser.bound(2, 1));
        checks.fails("bound(3, 2)", INDEX, () -> fuser.bound(3, 2));
        checks.fails("bound(-1, 0)", INDEX, () -> fuser.bound(-1, 0));
        checks.fails("bound(0, 2)", ARGUMENT, () -> fuser.bound(0, 2));
        checks.fails("bound(0, -1)", ARGUMENT, () -> fuser.bound(0, -1));
    }

    private static void promise8SetBound() {
        LoopFuser fuser = three();
        checks.due("setBound(1, 0, 5)", 2, fuser.setBound(1, 0, 5));
        checks.due("first after setBound", 5, fuser.bound(1, 0));
        checks.due("last after setBound", 20, fuser.bound(1, 1));
        checks.due("setBound(1, 1, 5)", 20, fuser.setBound(1, 1, 5));
        checks.due("last after setBound to the first", 5, fuser.bound(1, 1));
        checks.fails("last below first", ARGUMENT, () -> fuser.setBound(1, 1, 4));
        checks.fails("first above last", ARGUMENT, () -> fuser.setBound(1, 0, 6));
        checks.fails("first below 0", ARGUMENT, () -> fuser.setBound(1, 0, -1));
        checks.fails("last above 30", ARGUMENT, () -> fuser.setBound(1, 1, 31));
        checks.fails("wrong side", ARGUMENT, () -> fuser.setBound(1, 2, 5));
        checks.fails("wrong side below", ARGUMENT, () -> fuser.setBound(1, -1, 5));
        checks.fails("wrong loop ahead of a wrong side", INDEX, () -> fuser.setBound(3, 2, 5));
        checks.fails("wrong loop below", INDEX, () -> fuser.setBound(-1, 0, 5));
        checks.due("first after refused calls", 5, fuser.bound(1, 0));
        checks.due("last after refused calls", 5, fuser.bound(1, 1));
        checks.due("setBound to 0", 5, fuser.setBound(1, 0, 0));
        checks.due("setBound to 30", 5, fuser.setBound(1, 1, 30));
        checks.due("setBound to the same", 30, fuser.setBound(1, 1, 30));
        checks.due("bounds of the other loop", 1, fuser.bound(0, 0));
    }

    private static void promise9StatementCount() {
        LoopFuser fuser = Checks.with("for(0,0){a[i]=1;b[i]=2;c[i]=3;d[i]=4}for(0,0){e[i]=a[i]}");
        checks.due("statementCount(0)", 4, fuser.statementCount(0));
        checks.due("statementCount(1)", 1, fuser.statementCount(1));
        checks.fails("statementCount(2)", INDEX, () -> fuser.statementCount(2));
        checks.fails("statementCount(-1)", INDEX, () -> fuser.statementCount(-1));
    }

    private static void promise10ReferenceCount() {
        LoopFuser fuser = Checks.with(
                "for(0,0){a[i]=1;b[i]=a[i]+(b[i]-c[i])*d[i]+e[i]}", "for(0,0){e[i]=i}",
                "for(0,0){a[i]=a[i]+a[i]+a[i]+a[i]+a[i];a[i]=a[i]+a[i]+a[i]+a[i]+a[i]"
                        + ";a[i]=a[i]+a[i]+a[i]+a[i]+a[i];a[i]=1}");
        checks.due("referenceCount(0)", 7, fuser.referenceCount(0));
        checks.due("referenceCount(1)", 1, fuser.referenceCount(1));
        checks.due("referenceCount(2)", 19, fuser.referenceCount(2));
        LoopFuser most = Checks.with("for(0,0){a[i]=a[i]*a[i]*a[i]*a[i]*a[i];b[i]=b[i]*b[i]*b[i]*b[i]*b[i]"
                + ";c[i]=c[i]*c[i]*c[i]*c[i];d[i]=d[i]*d[i]*d[i]*d[i]}");
        checks.due("as many references as a text can hold", 22, most.referenceCount(0));
        checks.due("the last of them is a write", 1, most.reference(0, 21, 2));
        checks.due("the last of them is to d", 3, most.reference(0, 21, 0));
        checks.due("the last of them is in statement 3", 3, most.reference(0, 21, 3));
        checks.fails("referenceCount(3)", INDEX, () -> fuser.referenceCount(3));
        checks.fails("referenceCount(-1)", INDEX, () -> fuser.referenceCount(-1));
    }

    private static void promise11Reference() {
        LoopFuser fuser = Checks.with("for(0,0){a[i+9]=b[i-9]*(i+c[i-0]);d[i+0]=7;e[i]=a[i-1]-2}");
        int[][] due = {{1, -9, 0, 0}, {2, 0, 0, 0}, {0, 9, 1, 0}, {3, 0, 1, 1}, {0, -1, 0, 2}, {4, 0, 1, 2}};
        for (int reference = 0; reference < due.length; reference++) {
            for (int what = 0; what < 4; what++) {
                checks.due("reference(0, " + reference + ", " + what + ")", due[reference][what],
                        fuser.reference(0, reference, what));
            }
        }
        checks.fails("reference(0, 6, 0)", INDEX, () -> fuser.reference(0, 6, 0));
        checks.fails("reference(0, -1, 0)", INDEX, () -> fuser.reference(0, -1, 0));
        checks.fails("reference(1, 0, 0)", INDEX, () -> fuser.reference(1, 0, 0));
        checks.fails("reference(-1, 0, 0)", INDEX, () -> fuser.reference(-1, 0, 0));
        checks.fails("reference(0, 6, 4)", INDEX, () -> fuser.reference(0, 6, 4));
        checks.fails("reference(0, 0, 4)", ARGUMENT, () -> fuser.reference(0, 0, 4));
        checks.fails("reference(0, 0, -1)", ARGUMENT, () -> fuser.reference(0, 0, -1));
    }

    private static void promise12Operators() {
        LoopFuser fuser = Checks.with("for(0,0){a[i+1]=1+2+3-4*(5*6-b[i-1]);b[i-2]=i;c[i]=2*i*i*i}");
        int[][] due = {{2, 2, 2}, {0, 0, 0}, {0, 0, 3}};
        for (int statement = 0; statement < 3; statement++) {
            for (int operator = 0; operator < 3; operator++) {
                checks.due("operators(0, " + statement + ", " + operator + ")", due[statement][operator],
                        fuser.operators(0, statement, operator));
            }
        }
        checks.fails("operators(0, 3, 0)", INDEX, () -> fuser.operators(0, 3, 0));
        checks.fails("operators(0, -1, 3)", INDEX, () -> fuser.operators(0, -1, 3));
        checks.fails("operators(1, 0, 0)", INDEX, () -> fuser.operators(1, 0, 0));
        checks.fails("operators(0, 0, 3)", ARGUMENT, () -> fuser.operators(0, 0, 3));
        checks.fails("operators(0, 0, -1)", ARGUMENT, () -> fuser.operators(0, 0, -1));
    }

    private static void promise13Height() {
        heightDue(1, "12");
        heightDue(1, "i");
        heightDue(1, "a[i+1]");
        heightDue(1, "(((i)))");
        heightDue(2, "1+2");
        heightDue(3, "1+2+3");
        heightDue(3, "1-2*3");
        heightDue(3, "1*2-3");
        heightDue(3, "1+2*3");
        heightDue(4, "1+2*3+4*5");
        heightDue(3, "(1+2)*(3-4)");
        heightDue(4, "1+(2+(3+4))");
        heightDue(5, "1*(2+3-4)+5");
        heightDue(10, "1+2+3+4+5+6+7+8+9+i");
        LoopFuser fuser = Checks.with("for(0,0){a[i]=1;b[i]=1+1;c[i]=1+1+1;d[i]=1+1+1+1}");
        for (int statement = 0; statement < 4; statement++) {
            checks.due("height of statement " + statement, statement + 1, fuser.height(0, statement));
        }
        checks.fails("height(0, 4)", INDEX, () -> fuser.height(0, 4));
        checks.fails("height(0, -1)", INDEX, () -> fuser.height(0, -1));
        checks.fails("height(1, 0)", INDEX, () -> fuser.height(1, 0));
    }

    private static void heightDue(int want, String expression) {
        checks.due("height of " + expression, want, Checks.with("for(0,0){a[i]=" + expression + "}").height(0, 0));
    }

    private static void promise14Value() {
        valueDue(7, "7", 0);
        valueDue(99, "99", 0);
        valueDue(30, "i", 30);
        valueDue(1 - 2 - 3, "1-2-3", 0);
        valueDue(1 + 2 * 3, "1+2*3", 0);
        valueDue((1 + 2) * 3, "(1+2)*3", 0);
        valueDue(10 - (4 - 3), "10-(4-3)", 0);
        valueDue(2 * 3 * 4 - 5 * 6, "2*3*4-5*6", 0);
        valueDue(9 - (8 - (7 - 1)), "9-(8-(7-1))", 0);
        valueDue(1 + 2 * (3 + 4 * (5 + 6 * (7 + 8 * 9))), "1+2*(3+4*(5+6*(7+8*9)))", 0);
        valueDue(1 + 7 * -9, "a[i-9]", 0);
        valueDue(5 + 7 * 39, "e[i+9]", 30);
        valueDue(2 + 7 * 6 - (3 + 7 * 2), "b[i+1]-c[i-3]", 5);
        LoopFuser fuser = Checks.with("for(3,5){a[i]=i;b[i]=a[i];c[i]=b[i];d[i]=d[i-1]*2}");
        fuser.setOption(2, -4);
        checks.due("value with another seed", 4 * -4 + 7 * 4 + 4 * -4 + 7 * 4, fuser.value(0, 3, 5));
        checks.due("values are from initial cells", -4 + 7 * 5, fuser.value(0, 1, 5));
        fuser.run(0);
        checks.due("values are from initial cells after a run", -4 + 7 * 5, fuser.value(0, 1, 5));
        checks.fails("value(0, 0, 2)", ARGUMENT, () -> fuser.value(0, 0, 2));
        checks.fails("value(0, 0, 6)", ARGUMENT, () -> fuser.value(0, 0, 6));
        checks.fails("value(0, 4, 6)", INDEX, () -> fuser.value(0, 4, 6));
        checks.fails("value(0, -1, 3)", INDEX, () -> fuser.value(0, -1, 3));
        checks.fails("value(1, 0, 3)", INDEX, () -> fuser.value(1, 0, 3));
        fuser.setBound(0, 1, 3);
        checks.fails("value behind the set bound", ARGUMENT, () -> fuser.value(0, 0, 4));
    }

    private static void valueDue(int want, String expression, int i) {
        checks.due("value of " + expression, want,
                Checks.with("for(0,30){a[i]=" + expression + "}").value(0, 0, i));
    }

    private static void promise14LongValues() {
        LoopFuser longest = Checks.with("for(0,0){a[i]=" + "1+".repeat(52) + "1}");
        checks.due("value of the longest sum", 53, longest.value(0, 0, 0));
        checks.due("height of the longest sum", 53, longest.height(0, 0));
        LoopFuser fuser = Checks.with("for(0,0){a[i]=a[i]*a[i]+99}");
        fuser.setOption(2, 123456789);
        checks.due("value with overflow", 123456789 * 123456789 + 99, fuser.value(0, 0, 0));
        fuser.setOption(2, Integer.MIN_VALUE);
        checks.due("value with the least seed", 99, fuser.value(0, 0, 0));
    }

    private static void promise15SetOption() {
        LoopFuser fuser = new LoopFuser();
        checks.due("setOption(0, 20)", 9, fuser.setOption(0, 20));
        checks.due("setOption(0, 0)", 20, fuser.setOption(0, 0));
        checks.due("setOption(1, 9)", 3, fuser.setOption(1, 9));
        checks.due("setOption(1, 0)", 9, fuser.setOption(1, 0));
        checks.due("setOption(2, least)", 1, fuser.setOption(2, Integer.MIN_VALUE));
        checks.due("setOption(2, greatest)", Integer.MIN_VALUE, fuser.setOption(2, Integer.MAX_VALUE));
        checks.fails("setOption(0, 21)", ARGUMENT, () -> fuser.setOption(0, 21));
        checks.fails("setOption(0, -1)", ARGUMENT, () -> fuser.setOption(0, -1));
        checks.fails("setOption(1, 10)", ARGUMENT, () -> fuser.setOption(1, 10));
        checks.fails("setOption(1, -1)", ARGUMENT, () -> fuser.setOption(1, -1));
        checks.fails("setOption(3, 0)", INDEX, () -> fuser.setOption(3, 0));
        checks.fails("setOption(-1, 99)", INDEX, () -> fuser.setOption(-1, 99));
        checks.due("limit after refused calls", 0, fuser.setOption(0, 1));
        checks.due("window after refused calls", 0, fuser.setOption(1, 1));
        checks.due("seed after all", Integer.MAX_VALUE, fuser.setOption(2, 1));
    }

    private static void promise16SetBarrier() {
        LoopFuser fuser = three();
        checks.due("setBarrier at first", false, fuser.setBarrier(1, true));
        checks.due("setBarrier again", true, fuser.setBarrier(1, true));
        checks.due("setBarrier to false", true, fuser.setBarrier(1, false));
        checks.due("setBarrier after false", false, fuser.setBarrier(1, false));
        checks.due("setBarrier of another loop", false, fuser.setBarrier(2, true));
        checks.fails("setBarrier(3)", INDEX, () -> fuser.setBarrier(3, true));
        checks.fails("setBarrier(-1)", INDEX, () -> fuser.setBarrier(-1, true));
    }
}
