import java.util.NoSuchElementException;

/** Promises 17 to 20: dependences, required shifts and allowed groups. */
final class DependencesTest {
    private static final Checks checks = new Checks();
    private static final Class<IllegalArgumentException> ARGUMENT = IllegalArgumentException.class;
    private static final Class<IndexOutOfBoundsException> INDEX = IndexOutOfBoundsException.class;
    private static final Class<NoSuchElementException> ELEMENT = NoSuchElementException.class;

    public static void main(String[] args) {
        promise17DependenceCount();
        promise17CommonCells();
        promise18Dependence();
        promise19Required();
        promise20IsAllowed();
        promise20Barriers();
        checks.finish();
    }

    private static LoopFuser two() {
        return Checks.with("for(0,10){a[i]=b[i+1];c[i-1]=a[i]}for(0,10){b[i]=a[i-2]+c[i+3];a[i+1]=1}");
    }

    private static void promise17DependenceCount() {
        LoopFuser fuser = two();
        checks.due("dependenceCount(0, 1)", 5, fuser.dependenceCount(0, 1));
        checks.due("two reads have no dependence", 0, countOf("for(0,9){b[i]=a[i]}for(0,9){c[i]=a[i]}"));
        checks.due("other arrays have no dependence", 0, countOf("for(0,9){b[i]=1}for(0,9){c[i]=1}"));
        checks.due("each pair of references counts", 4, countOf("for(0,9){a[i]=1;a[i]=2}for(0,9){b[i]=a[i]+a[i]}"));
        checks.fails("dependenceCount(1, 0)", ARGUMENT, () -> fuser.dependenceCount(1, 0));
        checks.fails("dependenceCount(1, 1)", ARGUMENT, () -> fuser.dependenceCount(1, 1));
        checks.fails("dependenceCount(2, 0)", INDEX, () -> fuser.dependenceCount(2, 0));
        checks.fails("dependenceCount(0, 2)", INDEX, () -> fuser.dependenceCount(0, 2));
        checks.fails("dependenceCount(0, -1)", INDEX, () -> fuser.dependenceCount(0, -1));
        checks.fails("dependenceCount(-1, 1)", INDEX, () -> fuser.dependenceCount(-1, 1));
    }

    private static int countOf(String text) {
        return Checks.with(text).dependenceCount(0, 1);
    }

    private static void promise17CommonCells() {
        checks.due("one common cell above", 1, countOf("for(0,2){a[i]=1}for(5,7){b[i]=a[i-3]}"));
        checks.due("no common cell above", 0, countOf("for(0,2){a[i]=1}for(5,7){b[i]=a[i-2]}"));
        checks.due("one common cell below", 1, countOf("for(5,7){a[i]=1}for(0,2){b[i]=a[i+3]}"));
        checks.due("no common cell below", 0, countOf("for(5,7){a[i]=1}for(0,2){b[i]=a[i+2]}"));
        checks.due("ends of two arrays", 0, countOf("for(30,30){a[i+9]=1}for(0,0){a[i]=b[i-9]}"));
        LoopFuser fuser = Checks.with("for(0,2){a[i]=1}for(5,7){b[i]=a[i-3]}");
        fuser.setBound(0, 1, 1);
        checks.due("no common cell after setBound", 0, fuser.dependenceCount(0, 1));
    }

    private static void promise18Dependence() {
        LoopFuser fuser = two();
        int[][] due = {{1, 1, -1}, {0, 0, -2}, {0, 2, 1}, {0, 1, 1}, {2, 0, 4}};
        for (int index = 0; index < due.length; index++) {
            for (int what = 0; what < 3; what++) {
                checks.due("dependence(0, 1, " + index + ", " + what + ")", due[index][what],
                        fuser.dependence(0, 1, index, what));
            }
        }
        checks.fails("dependence(0, 1, 5, 0)", ELEMENT, () -> fuser.dependence(0, 1, 5, 0));
        checks.fails("dependence(0, 1, -1, 0)", ELEMENT, () -> fuser.dependence(0, 1, -1, 0));
        checks.fails("dependence(0, 1, 0, 3)", INDEX, () -> fuser.dependence(0, 1, 0, 3));
        checks.fails("dependence(0, 1, 0, -1)", INDEX, () -> fuser.dependence(0, 1, 0, -1));
        checks.fails("dependence(1, 0, 0, 3)", INDEX, () -> fuser.dependence(1, 0, 0, 3));
        checks.fails("dependence(1, 0, 99, 0)", ARGUMENT, () -> fuser.dependence(1, 0, 99, 0));
        checks.fails("dependence(0, 0, 0, 0)", ARGUMENT, () -> fuser.dependence(0, 0, 0, 0));
        checks.fails("dependence(2, 0, 0, 0)", INDEX, () -> fuser.dependence(2, 0, 0, 0));
        checks.fails("dependence(0, 2, 0, 0)", INDEX, () -> fuser.dependence(0, 2, 0, 0));
    }

    private static void promise19Required() {
        LoopFuser fuser = two();
        checks.due("required(0, 1)", 4, fuser.required(0, 1));
        checks.due("required may be negative", -18,
                Checks.with("for(0,30){a[i+9]=1}for(0,30){b[i]=a[i-9]}").required(0, 1));
        checks.due("required at most", 18,
                Checks.with("for(0,30){a[i-9]=1}for(0,30){b[i]=a[i+9]+a[i-9]}").required(0, 1));
        checks.fails("required(1, 0)", ARGUMENT, () -> fuser.required(1, 0));
        checks.fails("required(0, 0)", ARGUMENT, () -> fuser.required(0, 0));
        checks.fails("required(2, 1)", INDEX, () -> fuser.required(2, 1));
        checks.fails("required(-1, 1)", INDEX, () -> fuser.required(-1, 1));
        LoopFuser apart = Checks.with("for(0,9){a[i]=b[i]}for(0,9){c[i]=b[i]}");
        checks.fails("required of no dependence", ELEMENT, () -> apart.required(0, 1));
        checks.fails("required(1, 0) of no dependence", ARGUMENT, () -> apart.required(1, 0));
    }

    private static void promise20IsAllowed() {
        LoopFuser fuser = Checks.with("for(0,9){a[i]=1}for(0,9){b[i]=a[i+5]}for(0,9){c[i]=b[i+5]}");
        checks.due("isAllowed(0, 1)", true, fuser.isAllowed(0, 1));
        checks.due("isAllowed(1, 2)", true, fuser.isAllowed(1, 2));
        checks.due("isAllowed(0, 2) with shifts 5 and 10", false, fuser.isAllowed(0, 2));
        fuser.setOption(0, 10);
        checks.due("isAllowed(0, 2) with limit 10", true, fuser.isAllowed(0, 2));
        fuser.setOption(0, 5);
        checks.due("isAllowed(1, 2) with limit 5", true, fuser.isAllowed(1, 2));
        fuser.setOption(0, 4);
        checks.due("isAllowed(1, 2) with limit 4", false, fuser.isAllowed(1, 2));
        checks.due("isAllowed(2, 2)", true, fuser.isAllowed(2, 2));
        checks.fails("isAllowed(1, 0)", ARGUMENT, () -> fuser.isAllowed(1, 0));
        checks.fails("isAllowed(3, 0)", INDEX, () -> fuser.isAllowed(3, 0));
        checks.fails("isAllowed(1, -1)", INDEX, () -> fuser.isAllowed(1, -1));
        checks.fails("isAllowed(0, 3)", INDEX, () -> fuser.isAllowed(0, 3));
        LoopFuser middle = Checks.with("for(0,19){a[i-5]=1}for(0,9){b[i]=a[i+5]}for(0,9){c[i]=1}");
        checks.due("a shift within counts too", false, middle.isAllowed(0, 2));
        middle.setBound(0, 1, 0);
        checks.due("without common cells no shift is needed", true, middle.isAllowed(0, 2));
    }

    private static void promise20Barriers() {
        LoopFuser fuser = Checks.with("for(0,9){a[i]=1}for(0,9){b[i]=1}for(0,9){c[i]=1}");
        checks.due("isAllowed(0, 2) without barriers", true, fuser.isAllowed(0, 2));
        fuser.setBarrier(0, true);
        checks.due("a barrier of the first loop", true, fuser.isAllowed(0, 2));
        fuser.setBarrier(1, true);
        checks.due("a barrier of the second loop", false, fuser.isAllowed(0, 2));
        checks.due("a barrier of the last loop", false, fuser.isAllowed(0, 1));
        checks.due("a barrier ahead", true, fuser.isAllowed(1, 2));
        checks.due("one loop with a barrier", true, fuser.isAllowed(1, 1));
        fuser.setBarrier(1, false);
        checks.due("without the barrier", true, fuser.isAllowed(0, 2));
    }
}
