/** Promises 29 to 33: runs, cells and the snapshot. */
final class RunsTest {
    private static final Checks checks = new Checks();
    private static final Class<IllegalArgumentException> ARGUMENT = IllegalArgumentException.class;
    private static final Class<IndexOutOfBoundsException> INDEX = IndexOutOfBoundsException.class;
    private static final Class<IllegalStateException> STATE = IllegalStateException.class;
    private static final String CHAIN = "for(1,9){a[i]=i}for(0,9){b[i]=a[i+1]*2}for(2,9){a[i-1]=b[i]-a[i]}";

    public static void main(String[] args) {
        promise29Run();
        promise29Orders();
        promise30Cell();
        promise31Changed();
        promise32Save();
        promise33Restore();
        checks.finish();
    }

    /** The initial cells by the document: array, then cell + 9. */
    private static int[][] initial(int seed) {
        int[][] cells = new int[5][49];
        for (int x = 0; x < 5; x++) {
            for (int k = -9; k <= 39; k++) {
                cells[x][k + 9] = (x + 1) * seed + 7 * k;
            }
        }
        return cells;
    }

    private static int hash(int[][] cells) {
        int h = 7;
        for (int[] row : cells) {
            for (int content : row) {
                h = 31 * h + content;
            }
        }
        return h;
    }

    private static int[][] chained(int seed) {
        int[][] cells = initial(seed);
        for (int i = 1; i <= 9; i++) {
            cells[0][i + 9] = i;
        }
        for (int i = 0; i <= 9; i++) {
            cells[1][i + 9] = cells[0][i + 10] * 2;
        }
        for (int i = 2; i <= 9; i++) {
            cells[0][i + 8] = cells[1][i + 9] - cells[0][i + 9];
        }
        return cells;
    }

    private static void promise29Run() {
        LoopFuser fuser = new LoopFuser();
        for (int seed : new int[] {1, 0, -7, Integer.MAX_VALUE, Integer.MIN_VALUE}) {
            fuser.setOption(2, seed);
            for (int arrangement = 0; arrangement < 3; arrangement++) {
                checks.due("run without loops, seed " + seed, hash(initial(seed)), fuser.run(arrangement));
            }
        }
        Checks.add(fuser, CHAIN);
        for (int seed : new int[] {1, 1000000007}) {
            fuser.setOption(2, seed);
            for (int arrangement = 0; arrangement < 3; arrangement++) {
                checks.due("run, seed " + seed, hash(chained(seed)), fuser.run(arrangement));
                checks.due("run again, seed " + seed, hash(chained(seed)), fuser.run(arrangement));
            }
        }
        checks.fails("run(3)", ARGUMENT, () -> fuser.run(3));
        checks.fails("run(-1)", ARGUMENT, () -> fuser.run(-1));
    }

    /** The statements of an iteration come one after the other, and each iteration sees the ones before. */
    private static void promise29Orders() {
        LoopFuser fuser = Checks.with("for(0,30){a[i+9]=a[i+8]+1;b[i]=a[i+9];b[i]=b[i]*2}");
        int[][] cells = initial(1);
        for (int i = 0; i <= 30; i++) {
            cells[0][i + 18] = cells[0][i + 17] + 1;
            cells[1][i + 9] = cells[0][i + 18] * 2;
        }
        checks.due("run of statements in order", hash(cells), fuser.run(0));
        LoopFuser shifted = Checks.with("for(0,9){a[i]=1}for(0,9){b[i]=a[i+3]}for(0,9){a[i+3]=b[i]*5}");
        checks.due("fused run with shifts", shifted.run(0), shifted.run(1));
        checks.due("the last loop is shifted too", 3, shifted.shift(1, 2));
    }

    private static void promise30Cell() {
        LoopFuser fuser = Checks.with(CHAIN);
        fuser.setOption(2, 5);
        int[][] due = chained(5);
        for (int arrangement = 0; arrangement < 3; arrangement++) {
            for (int array = 0; array < 5; array++) {
                for (int cell = -9; cell <= 39; cell += array < 2 ? 1 : 12) {
                    checks.due("cell(" + arrangement + ", " + array + ", " + cell + ")", due[array][cell + 9],
                            fuser.cell(arrangement, array, cell));
                }
            }
        }
        fuser.setOption(2, 6);
        checks.due("cell with the present seed", 5 * 6 + 7 * 39, fuser.cell(0, 4, 39));
        checks.fails("cell(3, 5, 40)", ARGUMENT, () -> fuser.cell(3, 5, 40));
        checks.fails("cell(-1, 0, 0)", ARGUMENT, () -> fuser.cell(-1, 0, 0));
        checks.fails("cell(0, 5, 0)", INDEX, () -> fuser.cell(0, 5, 0));
        checks.fails("cell(0, -1, 0)", INDEX, () -> fuser.cell(0, -1, 0));
        checks.fails("cell(0, 0, 40)", INDEX, () -> fuser.cell(0, 0, 40));
        checks.fails("cell(0, 4, -10)", INDEX, () -> fuser.cell(0, 4, -10));
    }

    private static void promise31Changed() {
        LoopFuser fuser = new LoopFuser();
        checks.due("changed without loops", 0, fuser.changed(0));
        Checks.add(fuser, "for(0,9){a[i]=a[i]}");
        checks.due("changed by the same contents", 0, fuser.changed(1));
        Checks.add(fuser, "for(0,30){b[i+9]=0;e[i-9]=99}");
        checks.due("changed cells", 62, fuser.changed(2));
        Checks.add(fuser, "for(0,0){b[i+9]=7*9+2}");
        checks.due("a cell changed back", 61, fuser.changed(2));
        checks.due("the first and the last cell count", 2,
                Checks.with("for(0,0){a[i-9]=1}for(30,30){e[i+9]=1}").changed(0));
        fuser.setOption(2, 0);
        checks.due("changed by the present seed: b[9] held 63", 62, fuser.changed(0));
        checks.fails("changed(3)", ARGUMENT, () -> fuser.changed(3));
        checks.fails("changed(-1)", ARGUMENT, () -> fuser.changed(-1));
    }

    private static void promise32Save() {
        LoopFuser fuser = Checks.with("for(1,5){a[i]=1}for(2,6){b[i]=a[i]}");
        fuser.setBarrier(1, true);
        fuser.setOption(0, 4);
        fuser.setOption(1, 5);
        fuser.setOption(2, 6);
        fuser.save();
        fuser.setBarrier(0, true);
        fuser.setBarrier(1, false);
        fuser.setBound(0, 1, 9);
        fuser.setOption(0, 1);
        fuser.setOption(1, 1);
        fuser.setOption(2, 1);
        Checks.add(fuser, "for(0,0){c[i]=1}");
        fuser.restore();
        checks.due("loops saved", 2, fuser.loopCount());
        checks.due("bound saved", 5, fuser.bound(0, 1));
        checks.due("limit saved", 4, fuser.setOption(0, 4));
        checks.due("window saved", 5, fuser.setOption(1, 5));
        checks.due("seed saved", 6, fuser.setOption(2, 6));
        checks.due("barrier saved", true, fuser.setBarrier(1, true));
        checks.due("no barrier saved", false, fuser.setBarrier(0, false));
        fuser.removeLoop(0);
        fuser.save();
        fuser.removeLoop(0);
        fuser.restore();
        checks.due("loops of the later snapshot", 1, fuser.loopCount());
        checks.due("loop of the later snapshot", 2, fuser.bound(0, 0));
    }

    private static void promise33Restore() {
        LoopFuser fuser = Checks.with("for(1,5){a[i]=1}for(2,6){b[i]=a[i]}");
        checks.fails("restore without a snapshot", STATE, fuser::restore);
        checks.due("loops after refused restore", 2, fuser.loopCount());
        fuser.save();
        int hash = fuser.run(0);
        for (int time = 0; time < 3; time++) {
            fuser.removeLoop(time % 2);
            fuser.setOption(2, 77 + time);
            fuser.setBound(0, 0, 0);
            fuser.restore();
            checks.due("loops after restore " + time, 2, fuser.loopCount());
            checks.due("first loop after restore " + time, 1, fuser.bound(0, 0));
            checks.due("second loop after restore " + time, 2, fuser.bound(1, 0));
            checks.due("run after restore " + time, hash, fuser.run(0));
            checks.due("statement after restore " + time, 1, fuser.reference(1, 1, 0));
        }
        Checks.type(fuser, "for(x");
        checks.fails("read with a fault", ARGUMENT, fuser::read);
        Checks.type(fuser, "for");
        fuser.restore();
        checks.due("restore leaves the buffer", 3, fuser.append(0));
        checks.due("restore leaves the fault position", 4, fuser.faultPosition());
        LoopFuser empty = new LoopFuser();
        empty.save();
        Checks.add(empty, "for(0,0){c[i]=1}");
        empty.restore();
        checks.due("loops after restore of none", 0, empty.loopCount());
    }
}
