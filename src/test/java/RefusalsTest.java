import java.util.NoSuchElementException;
import java.util.function.Consumer;

/**
 * Each sentence that begins with "Throws", on both ends of what is refused, and the order of the conditions of a
 * method. After each refused call the state is compared with that of a twin, an object without that call.
 */
final class RefusalsTest {
    private static final Checks checks = new Checks();
    private static final Class<IllegalArgumentException> ARGUMENT = IllegalArgumentException.class;
    private static final Class<IllegalStateException> STATE = IllegalStateException.class;
    private static final Class<IndexOutOfBoundsException> INDEX = IndexOutOfBoundsException.class;
    private static final Class<NoSuchElementException> ELEMENT = NoSuchElementException.class;
    private static final int LEAST = Integer.MIN_VALUE;
    private static final int GREATEST = Integer.MAX_VALUE;
    /** The busy object has three loops; arrangements and options are three too. */
    private static final int[] NOT_BELOW_3 = {-1, 3, LEAST, GREATEST};
    private static final int[] NO_SIDES = {-1, 2, LEAST, GREATEST};
    private static final int[] NOT_BELOW_4 = {-1, 4, LEAST, GREATEST};
    private static final String SHORTEST = "for(0,0){a[i]=1}";

    public static void main(String[] args) {
        promise2Append();
        promise2AppendOrder();
        promise3ReadFault();
        promise3ReadTooMany();
        promises5And6And9And10();
        promise7Bound();
        promise8SetBound();
        promise11Reference();
        promise12Operators();
        promises13And14();
        promise15SetOption();
        promise16SetBarrier();
        promise17DependenceCount();
        promise18Dependence();
        promise19Required();
        promises20And28();
        promise21GroupCount();
        promises22And23();
        promise24Step();
        promise25Peeled();
        promise26Carried();
        promise27Reads();
        promises29And31();
        promise30Cell();
        promise33Restore();
        emptyObject();
        questionsLeaveTheState();
        checks.finish();
    }

    /** Three loops, changed options and barriers, another snapshot, an earlier fault, and a text in the buffer. */
    private static LoopFuser busy() {
        LoopFuser fuser = Checks.with("for(1,9){a[i]=b[i-1]+2*c[i+2];d[i]=a[i]}for(0,8){d[i+1]=a[i+1]-a[i]*i}");
        fuser.setBarrier(1, true);
        setOptions(fuser, 3, 2, -5);
        fuser.save();
        Checks.add(fuser, "for(2,20){e[i]=7}");
        fuser.setBarrier(1, false);
        fuser.setBarrier(0, true);
        fuser.setBound(0, 1, 12);
        setOptions(fuser, 6, 5, 77);
        Checks.type(fuser, "for(x");
        checks.fails("read of the busy object", ARGUMENT, fuser::read);
        Checks.type(fuser, "for(2,3){e[i]=5");
        return fuser;
    }

    private static void setOptions(LoopFuser fuser, int limit, int window, int seed) {
        fuser.setOption(0, limit);
        fuser.setOption(1, window);
        fuser.setOption(2, seed);
    }

    private static void refused(String call, Class<? extends RuntimeException> want, Consumer<LoopFuser> refusal) {
        refused(call, want, refusal, busy(), busy());
    }

    private static void refused(String call, Class<? extends RuntimeException> want, Consumer<LoopFuser> refusal,
            LoopFuser fuser, LoopFuser twin) {
        checks.fails(call, want, () -> refusal.accept(fuser));
        checks.due(call + " leaves the state", true, Picture.of(twin).equals(Picture.of(fuser)));
    }

    private static void promise2Append() {
        checks.about("Throws IllegalArgumentException if a byte that is not 0 is not from 33 to 126");
        for (int bad : new int[] {1, 31, 32, 127, 128, 255}) {
            for (int place = 0; place < 32; place += 8) {
                int alone = bad << place;
                int among = 0x21217e7e & ~(255 << place) | alone;
                refused("append of byte " + bad + " alone", ARGUMENT, x -> x.append(alone));
                refused("append of byte " + bad + " among others", ARGUMENT, x -> x.append(among));
            }
        }
        refused("append(-1)", ARGUMENT, x -> x.append(-1));
        refused("append of the least int", ARGUMENT, x -> x.append(LEAST));
        checks.about("Throws IllegalStateException if there would be more than 120 characters");
        for (int count = 117; count <= 120; count++) {
            int length = count;
            for (int more = 121 - count; more <= 4; more++) {
                int added = Checks.packed("i+i+".substring(0, more));
                refused("append of " + more + " to " + count, STATE, x -> x.append(added), filled(length), filled(length));
            }
            int room = 120 - count;
            checks.due("append of " + room + " to " + count, 120,
                    filled(length).append(Checks.packed("i+i+".substring(0, room))));
        }
        checks.due("append of four to 116", 120, filled(116).append(Checks.packed("i+i+")));
    }

    /** An object with so many characters in the buffer. */
    private static LoopFuser filled(int length) {
        LoopFuser fuser = new LoopFuser();
        Checks.type(fuser, ("for(0,5){a[i]=" + "i+".repeat(60)).substring(0, length));
        return fuser;
    }

    private static void promise2AppendOrder() {
        checks.about("the one that is listed first determines the exception");
        for (String signs : new String[] {"i i", " ii", "ii\u007f", "\u00ffi"}) {
            refused("append of a wrong byte and too many", ARGUMENT, x -> x.append(Checks.packed(signs)),
                    filled(120), filled(120));
        }
    }

    private static void promise3ReadFault() {
        checks.about("Throws IllegalArgumentException if the text has a fault");
        LoopFuser busy = busy();
        checks.fails("read of a text too short", ARGUMENT, busy::read);
        checks.due("the buffer is emptied", 0, busy.append(0));
        checks.due("fault position", 15, busy.faultPosition());
        checks.due("no loop is added", 3, busy.loopCount());
        checks.due("the program stays", true, Picture.ofProgram(busy()).equals(Picture.ofProgram(busy)));
        LoopFuser later = busy();
        Checks.type(later, "}" + SHORTEST + "for(0,0){a[i]=}");
        checks.fails("read with a fault in the third loop", ARGUMENT, later::read);
        checks.due("the buffer is emptied", 0, later.append(0));
        checks.due("fault position in the third loop", 46, later.faultPosition());
        checks.due("none of the loops is added", 3, later.loopCount());
        checks.due("the program stays", true, Picture.ofProgram(busy()).equals(Picture.ofProgram(later)));
        Checks.type(later, SHORTEST);
        checks.due("the next text is read alone", 1, later.read());
        LoopFuser full = filled(120);
        checks.fails("read of 120 characters without an end", ARGUMENT, full::read);
        checks.due("the full buffer is emptied", 0, full.append(0));
        checks.due("fault position behind 120 characters", 120, full.faultPosition());
    }

    private static void promise3ReadTooMany() {
        checks.about("Throws IllegalStateException if there would be more than 6 loops");
        for (int before = 0; before <= 6; before++) {
            LoopFuser fuser = withLoops(before);
            fuser.save();
            setOptions(fuser, 1, 2, 3);
            LoopFuser twin = withLoops(before);
            twin.save();
            setOptions(twin, 1, 2, 3);
            int many = 7 - before;
            Checks.type(fuser, "for(x");
            checks.fails("read of a fault", ARGUMENT, fuser::read);
            Checks.type(fuser, SHORTEST.repeat(many));
            checks.fails("read of " + many + " to " + before, STATE, fuser::read);
            checks.due("the buffer is emptied", 0, fuser.append(0));
            checks.due("no fault position of " + many + " to " + before, -1, fuser.faultPosition());
            checks.due("no loop of " + many + " is added to " + before, before, fuser.loopCount());
            if (many > 1) {
                checks.due("loops that fit are read", many - 1, fits(twin, many - 1));
                checks.due("loops that fit are read", many - 1, fits(fuser, many - 1));
            }
            checks.due("the program stays", true, Picture.ofProgram(twin).equals(Picture.ofProgram(fuser)));
            LoopFuser other = withLoops(before);
            Checks.type(other, SHORTEST.repeat(many) + "g");
            checks.fails("a fault is ahead of too many loops", ARGUMENT, other::read);
            checks.due("its fault position", 16 * many, other.faultPosition());
            checks.due("no loop is added", before, other.loopCount());
        }
    }

    private static LoopFuser withLoops(int count) {
        LoopFuser fuser = new LoopFuser();
        for (int n = 0; n < count; n++) {
            Checks.add(fuser, "for(" + n + ",9){b[i]=a[i+" + n + "]}");
        }
        return fuser;
    }

    private static int fits(LoopFuser fuser, int many) {
        Checks.type(fuser, SHORTEST.repeat(many));
        return fuser.read();
    }

    private static void promises5And6And9And10() {
        checks.about("Throws IndexOutOfBoundsException if there is no such loop");
        for (int loop : NOT_BELOW_3) {
            refused("removeLoop(" + loop + ")", INDEX, x -> x.removeLoop(loop));
            refused("statementCount(" + loop + ")", INDEX, x -> x.statementCount(loop));
            refused("referenceCount(" + loop + ")", INDEX, x -> x.referenceCount(loop));
        }
        LoopFuser full = withLoops(6);
        for (int loop : new int[] {-1, 6, 7, LEAST, GREATEST}) {
            checks.fails("removeLoop(" + loop + ") of six", INDEX, () -> full.removeLoop(loop));
            checks.due("loopCount after removeLoop(" + loop + ")", 6, full.loopCount());
        }
    }

    private static void promise7Bound() {
        checks.about("Throws IndexOutOfBoundsException if there is no such loop");
        for (int loop : NOT_BELOW_3) {
            refused("bound(" + loop + ", 0)", INDEX, x -> x.bound(loop, 0));
            refused("bound(" + loop + ", 2)", INDEX, x -> x.bound(loop, 2));
        }
        checks.about("Throws IllegalArgumentException if side is neither 0 nor 1");
        for (int side : NO_SIDES) {
            refused("bound(2, " + side + ")", ARGUMENT, x -> x.bound(2, side));
        }
    }

    private static void promise8SetBound() {
        checks.about("Throws IndexOutOfBoundsException if there is no such loop");
        for (int loop : NOT_BELOW_3) {
            refused("setBound(" + loop + ", 0, 2)", INDEX, x -> x.setBound(loop, 0, 2));
            refused("setBound(" + loop + ", 2, 2)", INDEX, x -> x.setBound(loop, 2, 2));
            refused("setBound(" + loop + ", 1, 31)", INDEX, x -> x.setBound(loop, 1, 31));
        }
        checks.about("Throws IllegalArgumentException if side is neither 0 nor 1");
        for (int side : NO_SIDES) {
            refused("setBound(2, " + side + ", 5)", ARGUMENT, x -> x.setBound(2, side, 5));
        }
        checks.about("or 0 <= first <= last <= 30 would not hold");
        for (int value : new int[] {-1, 21, 31, LEAST, GREATEST}) {
            refused("setBound(2, 0, " + value + ") of 2 to 20", ARGUMENT, x -> x.setBound(2, 0, value));
        }
        for (int value : new int[] {1, -1, 31, LEAST, GREATEST}) {
            refused("setBound(2, 1, " + value + ") of 2 to 20", ARGUMENT, x -> x.setBound(2, 1, value));
        }
        for (int[] allowed : new int[][] {{0, 0}, {0, 20}, {1, 2}, {1, 30}}) {
            LoopFuser fuser = busy();
            checks.due("setBound at the edge", allowed[0] == 0 ? 2 : 20, fuser.setBound(2, allowed[0], allowed[1]));
            checks.due("the bound set", allowed[1], fuser.bound(2, allowed[0]));
            checks.due("the other bound", allowed[0] == 0 ? 20 : 2, fuser.bound(2, 1 - allowed[0]));
        }
    }

    private static void promise11Reference() {
        checks.about("Throws IndexOutOfBoundsException if there is no such loop or reference");
        for (int loop : NOT_BELOW_3) {
            refused("reference(" + loop + ", 0, 0)", INDEX, x -> x.reference(loop, 0, 0));
            refused("reference(" + loop + ", 0, 4)", INDEX, x -> x.reference(loop, 0, 4));
        }
        for (int reference : new int[] {-1, 5, LEAST, GREATEST}) {
            refused("reference(0, " + reference + ", 0)", INDEX, x -> x.reference(0, reference, 0));
            refused("reference(0, " + reference + ", -1)", INDEX, x -> x.reference(0, reference, -1));
        }
        checks.due("the last reference", 3, busy().reference(0, 4, 0));
        checks.about("Throws IllegalArgumentException if what is not from 0 to 3");
        for (int what : NOT_BELOW_4) {
            refused("reference(0, 4, " + what + ")", ARGUMENT, x -> x.reference(0, 4, what));
        }
    }

    private static void promise12Operators() {
        checks.about("Throws IndexOutOfBoundsException if there is no such loop or statement");
        for (int loop : NOT_BELOW_3) {
            refused("operators(" + loop + ", 0, 0)", INDEX, x -> x.operators(loop, 0, 0));
            refused("operators(" + loop + ", 0, 3)", INDEX, x -> x.operators(loop, 0, 3));
        }
        for (int statement : NO_SIDES) {
            refused("operators(0, " + statement + ", 0)", INDEX, x -> x.operators(0, statement, 0));
            refused("operators(0, " + statement + ", 3)", INDEX, x -> x.operators(0, statement, 3));
        }
        checks.about("Throws IllegalArgumentException if operator is not from 0 to 2");
        for (int operator : NOT_BELOW_3) {
            refused("operators(0, 1, " + operator + ")", ARGUMENT, x -> x.operators(0, 1, operator));
        }
    }

    private static void promises13And14() {
        checks.about("Throws IndexOutOfBoundsException if there is no such loop or statement");
        for (int loop : NOT_BELOW_3) {
            refused("height(" + loop + ", 0)", INDEX, x -> x.height(loop, 0));
            refused("value(" + loop + ", 0, 5)", INDEX, x -> x.value(loop, 0, 5));
            refused("value(" + loop + ", 0, 31)", INDEX, x -> x.value(loop, 0, 31));
        }
        for (int statement : NO_SIDES) {
            refused("height(0, " + statement + ")", INDEX, x -> x.height(0, statement));
            refused("value(0, " + statement + ", 5)", INDEX, x -> x.value(0, statement, 5));
            refused("value(0, " + statement + ", -1)", INDEX, x -> x.value(0, statement, -1));
        }
        checks.about("Throws IllegalArgumentException if the loop has no iteration with this value");
        for (int i : new int[] {0, 13, -1, 31, LEAST, GREATEST}) {
            refused("value(0, 1, " + i + ") of 1 to 12", ARGUMENT, x -> x.value(0, 1, i));
        }
        checks.due("value of the first iteration", 77 + 7, busy().value(0, 1, 1));
        checks.due("value of the last iteration", 77 + 7 * 12, busy().value(0, 1, 12));
    }

    private static void promise15SetOption() {
        checks.about("Throws IndexOutOfBoundsException if there is no such option");
        for (int option : NOT_BELOW_3) {
            refused("setOption(" + option + ", 1)", INDEX, x -> x.setOption(option, 1));
            refused("setOption(" + option + ", -1)", INDEX, x -> x.setOption(option, -1));
        }
        checks.about("Throws IllegalArgumentException if the value is out of range");
        for (int value : new int[] {-1, 21, LEAST, GREATEST}) {
            refused("setOption(0, " + value + ")", ARGUMENT, x -> x.setOption(0, value));
        }
        for (int value : new int[] {-1, 10, LEAST, GREATEST}) {
            refused("setOption(1, " + value + ")", ARGUMENT, x -> x.setOption(1, value));
        }
    }

    private static void promise16SetBarrier() {
        checks.about("Throws IndexOutOfBoundsException if there is no such loop");
        for (int loop : NOT_BELOW_3) {
            refused("setBarrier(" + loop + ", true)", INDEX, x -> x.setBarrier(loop, true));
            refused("setBarrier(" + loop + ", false)", INDEX, x -> x.setBarrier(loop, false));
        }
    }

    private static void promise17DependenceCount() {
        checks.about("Throws IndexOutOfBoundsException if there is no such loop");
        for (int loop : NOT_BELOW_3) {
            refused("dependenceCount(" + loop + ", 1)", INDEX, x -> x.dependenceCount(loop, 1));
            refused("dependenceCount(1, " + loop + ")", INDEX, x -> x.dependenceCount(1, loop));
            refused("dependenceCount of " + loop + " twice", INDEX, x -> x.dependenceCount(loop, loop));
        }
        checks.about("Throws IllegalArgumentException if p is not before q");
        refused("dependenceCount(1, 0)", ARGUMENT, x -> x.dependenceCount(1, 0));
        refused("dependenceCount(1, 1)", ARGUMENT, x -> x.dependenceCount(1, 1));
        refused("dependenceCount(2, 0)", ARGUMENT, x -> x.dependenceCount(2, 0));
    }

    private static void promise18Dependence() {
        checks.about("Throws IndexOutOfBoundsException if there is no such loop, or what is not from 0 to 2");
        for (int loop : NOT_BELOW_3) {
            refused("dependence(" + loop + ", 1, 0, 0)", INDEX, x -> x.dependence(loop, 1, 0, 0));
            refused("dependence(1, " + loop + ", 0, 0)", INDEX, x -> x.dependence(1, loop, 0, 0));
            refused("dependence(0, 1, 0, " + loop + ")", INDEX, x -> x.dependence(0, 1, 0, loop));
            refused("dependence(1, 0, 0, " + loop + ")", INDEX, x -> x.dependence(1, 0, 0, loop));
            refused("dependence(0, 2, 0, " + loop + ")", INDEX, x -> x.dependence(0, 2, 0, loop));
        }
        checks.about("Throws IllegalArgumentException if p is not before q");
        refused("dependence(1, 0, 0, 0)", ARGUMENT, x -> x.dependence(1, 0, 0, 0));
        refused("dependence(1, 1, 0, 0)", ARGUMENT, x -> x.dependence(1, 1, 0, 0));
        refused("dependence(2, 0, 0, 0)", ARGUMENT, x -> x.dependence(2, 0, 0, 0));
        refused("dependence(1, 0, -1, 0)", ARGUMENT, x -> x.dependence(1, 0, -1, 0));
        checks.about("Throws NoSuchElementException if there is no such dependence");
        int count = busy().dependenceCount(0, 1);
        // a written in loop 0 and read twice in loop 1, d written in both.
        checks.due("dependences of loops 0 and 1", 3, count);
        checks.due("the last dependence is of d", 3, busy().dependence(0, 1, count - 1, 0));
        for (int index : new int[] {-1, count, LEAST, GREATEST}) {
            refused("dependence(0, 1, " + index + ", 0)", ELEMENT, x -> x.dependence(0, 1, index, 0));
        }
        refused("dependence(0, 2, 0, 0)", ELEMENT, x -> x.dependence(0, 2, 0, 0));
    }

    private static void promise19Required() {
        checks.about("Throws IndexOutOfBoundsException if there is no such loop");
        for (int loop : NOT_BELOW_3) {
            refused("required(" + loop + ", 1)", INDEX, x -> x.required(loop, 1));
            refused("required(1, " + loop + ")", INDEX, x -> x.required(1, loop));
        }
        checks.about("Throws IllegalArgumentException if p is not before q");
        refused("required(1, 0)", ARGUMENT, x -> x.required(1, 0));
        refused("required(1, 1)", ARGUMENT, x -> x.required(1, 1));
        refused("required(2, 0) of no dependence", ARGUMENT, x -> x.required(2, 0));
        checks.about("Throws NoSuchElementException if they have no dependence");
        refused("required(0, 2)", ELEMENT, x -> x.required(0, 2));
        refused("required(1, 2)", ELEMENT, x -> x.required(1, 2));
    }

    private static void promises20And28() {
        checks.about("Throws IndexOutOfBoundsException if there is no such loop");
        for (int loop : NOT_BELOW_3) {
            refused("isAllowed(" + loop + ", 1)", INDEX, x -> x.isAllowed(loop, 1));
            refused("isAllowed(1, " + loop + ")", INDEX, x -> x.isAllowed(1, loop));
            refused("hits(" + loop + ", 1)", INDEX, x -> x.hits(loop, 1));
            refused("hits(1, " + loop + ")", INDEX, x -> x.hits(1, loop));
        }
        checks.about("Throws IllegalArgumentException if last is before first");
        refused("isAllowed(1, 0)", ARGUMENT, x -> x.isAllowed(1, 0));
        refused("isAllowed(2, 0)", ARGUMENT, x -> x.isAllowed(2, 0));
        refused("hits(1, 0)", ARGUMENT, x -> x.hits(1, 0));
        refused("hits(2, 0)", ARGUMENT, x -> x.hits(2, 0));
        for (int loop = 0; loop < 3; loop++) {
            checks.due("isAllowed of one loop", true, busy().isAllowed(loop, loop));
            checks.due("hits of one loop", loop == 0 ? 12 : loop == 1 ? 8 : 0, busy().hits(loop, loop));
        }
    }

    private static void promise21GroupCount() {
        checks.about("Throws IllegalArgumentException if there is no such arrangement");
        for (int arrangement : NOT_BELOW_3) {
            refused("groupCount(" + arrangement + ")", ARGUMENT, x -> x.groupCount(arrangement));
        }
    }

    private static void promises22And23() {
        checks.about("Throws IllegalArgumentException if there is no such arrangement");
        for (int wrong : NOT_BELOW_3) {
            refused("groupOf(" + wrong + ", 0)", ARGUMENT, x -> x.groupOf(wrong, 0));
            refused("groupOf(" + wrong + ", 3)", ARGUMENT, x -> x.groupOf(wrong, 3));
            refused("shift(" + wrong + ", 0)", ARGUMENT, x -> x.shift(wrong, 0));
            refused("shift(" + wrong + ", 3)", ARGUMENT, x -> x.shift(wrong, 3));
        }
        checks.about("Throws IndexOutOfBoundsException if there is no such loop");
        for (int arrangement = 0; arrangement < 3; arrangement++) {
            int good = arrangement;
            for (int wrong : NOT_BELOW_3) {
                refused("groupOf(" + good + ", " + wrong + ")", INDEX, x -> x.groupOf(good, wrong));
                refused("shift(" + good + ", " + wrong + ")", INDEX, x -> x.shift(good, wrong));
            }
        }
    }

    /** Loops 0 and 1 share steps, loop 2 begins behind them. */
    private static LoopFuser emptyMain() {
        LoopFuser fuser = Checks.with("for(0,5){a[i]=1}for(3,9){b[i]=1}for(10,12){c[i]=1}");
        Checks.type(fuser, "for(7,7){d[i]=d[i-1]");
        return fuser;
    }

    private static void promise24Step() {
        checks.about("Throws IllegalArgumentException if there is no such arrangement, or what is not from 0 to 3");
        for (int wrong : NOT_BELOW_3) {
            refused("step(" + wrong + ", 0, 0)", ARGUMENT, x -> x.step(wrong, 0, 0));
            refused("step(" + wrong + ", 9, 0)", ARGUMENT, x -> x.step(wrong, 9, 0));
        }
        for (int what : NOT_BELOW_4) {
            refused("step(0, 0, " + what + ")", ARGUMENT, x -> x.step(0, 0, what));
            refused("step(0, 9, " + what + ")", ARGUMENT, x -> x.step(0, 9, what));
        }
        checks.about("Throws IndexOutOfBoundsException if there is no such group");
        for (int group : NOT_BELOW_3) {
            refused("step(0, " + group + ", 0)", INDEX, x -> x.step(0, group, 0));
            refused("step(0, " + group + ", 3)", INDEX, x -> x.step(0, group, 3));
        }
        refused("step(1, 1, 2) of one group", INDEX, x -> x.step(1, 1, 2), emptyMain(), emptyMain());
        checks.about("Throws NoSuchElementException if what is 2 or 3 and the main part is empty");
        for (int arrangement = 1; arrangement < 3; arrangement++) {
            int good = arrangement;
            checks.due("one group", 1, emptyMain().groupCount(good));
            refused("step(" + good + ", 0, 2)", ELEMENT, x -> x.step(good, 0, 2), emptyMain(), emptyMain());
            refused("step(" + good + ", 0, 3)", ELEMENT, x -> x.step(good, 0, 3), emptyMain(), emptyMain());
            checks.due("the first step stays", 0, emptyMain().step(good, 0, 0));
            checks.due("the last step stays", 12, emptyMain().step(good, 0, 1));
        }
    }

    private static void promise25Peeled() {
        checks.about("Throws IllegalArgumentException if there is no such arrangement, or side is neither 0 nor 1");
        for (int wrong : NOT_BELOW_3) {
            refused("peeled(" + wrong + ", 0, 0)", ARGUMENT, x -> x.peeled(wrong, 0, 0));
            refused("peeled(" + wrong + ", 3, 0)", ARGUMENT, x -> x.peeled(wrong, 3, 0));
        }
        for (int side : NO_SIDES) {
            refused("peeled(1, 0, " + side + ")", ARGUMENT, x -> x.peeled(1, 0, side));
            refused("peeled(1, 3, " + side + ")", ARGUMENT, x -> x.peeled(1, 3, side));
        }
        checks.about("Throws IndexOutOfBoundsException if there is no such loop");
        for (int loop : NOT_BELOW_3) {
            refused("peeled(1, " + loop + ", 0)", INDEX, x -> x.peeled(1, loop, 0));
            refused("peeled(2, " + loop + ", 1)", INDEX, x -> x.peeled(2, loop, 1));
        }
    }

    private static void promise26Carried() {
        checks.about("Throws IllegalArgumentException if there is no such arrangement");
        for (int wrong : NOT_BELOW_3) {
            refused("carried(" + wrong + ", 0)", ARGUMENT, x -> x.carried(wrong, 0));
            refused("carried(" + wrong + ", 9)", ARGUMENT, x -> x.carried(wrong, 9));
        }
        checks.about("Throws IndexOutOfBoundsException if there is no such group");
        for (int group : NOT_BELOW_3) {
            refused("carried(0, " + group + ")", INDEX, x -> x.carried(0, group));
        }
        refused("carried(2, 1) of one group", INDEX, x -> x.carried(2, 1), emptyMain(), emptyMain());
    }

    private static void promise27Reads() {
        checks.about("Throws IllegalArgumentException if there is no such arrangement, or what is not from 0 to 2");
        for (int wrong : NOT_BELOW_3) {
            refused("reads(" + wrong + ", 0)", ARGUMENT, x -> x.reads(wrong, 0));
            refused("reads(1, " + wrong + ")", ARGUMENT, x -> x.reads(1, wrong));
        }
    }

    private static void promises29And31() {
        checks.about("Throws IllegalArgumentException if there is no such arrangement");
        for (int wrong : NOT_BELOW_3) {
            refused("run(" + wrong + ")", ARGUMENT, x -> x.run(wrong));
            refused("changed(" + wrong + ")", ARGUMENT, x -> x.changed(wrong));
        }
    }

    private static void promise30Cell() {
        checks.about("Throws IllegalArgumentException if there is no such arrangement");
        for (int wrong : NOT_BELOW_3) {
            refused("cell(" + wrong + ", 0, 0)", ARGUMENT, x -> x.cell(wrong, 0, 0));
            refused("cell(" + wrong + ", 5, 40)", ARGUMENT, x -> x.cell(wrong, 5, 40));
        }
        checks.about("Throws IndexOutOfBoundsException if there is no such array or cell");
        for (int array : new int[] {-1, 5, LEAST, GREATEST}) {
            refused("cell(1, " + array + ", 0)", INDEX, x -> x.cell(1, array, 0));
        }
        for (int cell : new int[] {-10, 40, LEAST, GREATEST}) {
            for (int array = 0; array < 5; array++) {
                int good = array;
                refused("cell(2, " + array + ", " + cell + ")", INDEX, x -> x.cell(2, good, cell));
            }
        }
    }

    /** An object that was never saved. */
    private static LoopFuser unsaved() {
        LoopFuser fuser = Checks.with("for(1,9){a[i]=b[i-1]}for(0,8){d[i+1]=a[i+1]}");
        fuser.setBarrier(1, true);
        setOptions(fuser, 3, 2, -5);
        Checks.type(fuser, "for(1,1){c[i]=3");
        return fuser;
    }

    private static void promise33Restore() {
        checks.about("Throws IllegalStateException if there is no snapshot");
        refused("restore of a new object", STATE, LoopFuser::restore, new LoopFuser(), new LoopFuser());
        refused("restore of an object never saved", STATE, LoopFuser::restore, unsaved(), unsaved());
        LoopFuser again = unsaved();
        checks.fails("restore", STATE, again::restore);
        refused("restore again", STATE, LoopFuser::restore, again, unsaved());
        LoopFuser saved = unsaved();
        saved.save();
        saved.restore();
        checks.due("restore after save", 2, saved.loopCount());
    }

    /** Without loops there is no loop 0, and no group 0. */
    private static void emptyObject() {
        checks.about("if there is no such loop");
        refusedEmpty("removeLoop", INDEX, x -> x.removeLoop(0));
        refusedEmpty("bound", INDEX, x -> x.bound(0, 0));
        refusedEmpty("setBound", INDEX, x -> x.setBound(0, 0, 0));
        refusedEmpty("statementCount", INDEX, x -> x.statementCount(0));
        refusedEmpty("referenceCount", INDEX, x -> x.referenceCount(0));
        refusedEmpty("reference", INDEX, x -> x.reference(0, 0, 0));
        refusedEmpty("operators", INDEX, x -> x.operators(0, 0, 0));
        refusedEmpty("height", INDEX, x -> x.height(0, 0));
        refusedEmpty("value", INDEX, x -> x.value(0, 0, 0));
        refusedEmpty("setBarrier", INDEX, x -> x.setBarrier(0, true));
        refusedEmpty("dependenceCount", INDEX, x -> x.dependenceCount(0, 0));
        refusedEmpty("dependence", INDEX, x -> x.dependence(0, 0, 0, 0));
        refusedEmpty("required", INDEX, x -> x.required(0, 0));
        refusedEmpty("isAllowed", INDEX, x -> x.isAllowed(0, 0));
        refusedEmpty("hits", INDEX, x -> x.hits(0, 0));
        for (int arrangement = 0; arrangement < 3; arrangement++) {
            int good = arrangement;
            refusedEmpty("groupOf", INDEX, x -> x.groupOf(good, 0));
            refusedEmpty("shift", INDEX, x -> x.shift(good, 0));
            refusedEmpty("step", INDEX, x -> x.step(good, 0, 0));
            refusedEmpty("step of the main part", INDEX, x -> x.step(good, 0, 2));
            refusedEmpty("peeled", INDEX, x -> x.peeled(good, 0, 0));
            refusedEmpty("carried", INDEX, x -> x.carried(good, 0));
        }
        checks.about("");
    }

    private static void refusedEmpty(String call, Class<? extends RuntimeException> want, Consumer<LoopFuser> refusal) {
        refused(call + " without loops", want, refusal, new LoopFuser(), new LoopFuser());
        LoopFuser emptied = Checks.with(SHORTEST);
        emptied.removeLoop(0);
        refused(call + " of removed loops", want, refusal, emptied, new LoopFuser());
    }

    /** A call that only tells something changes nothing either. */
    private static void questionsLeaveTheState() {
        leaves("append of nothing", x -> x.append(0));
        leaves("faultPosition", LoopFuser::faultPosition);
        leaves("loopCount", LoopFuser::loopCount);
        leaves("bound", x -> x.bound(0, 1));
        leaves("setBound to the same", x -> x.setBound(0, 1, 12));
        leaves("statementCount", x -> x.statementCount(0));
        leaves("referenceCount", x -> x.referenceCount(0));
        leaves("reference", x -> x.reference(0, 1, 1));
        leaves("operators", x -> x.operators(0, 0, 2));
        leaves("height", x -> x.height(0, 0));
        leaves("value", x -> x.value(0, 0, 5));
        leaves("setOption to the same", x -> x.setOption(2, 77));
        leaves("setBarrier to the same", x -> x.setBarrier(0, true));
        leaves("dependenceCount", x -> x.dependenceCount(0, 1));
        leaves("dependence", x -> x.dependence(0, 1, 0, 2));
        leaves("required", x -> x.required(0, 1));
        leaves("isAllowed", x -> x.isAllowed(1, 2));
        leaves("hits", x -> x.hits(0, 2));
        for (int arrangement = 0; arrangement < 3; arrangement++) {
            int good = arrangement;
            leaves("groupCount", x -> x.groupCount(good));
            leaves("groupOf", x -> x.groupOf(good, 1));
            leaves("shift", x -> x.shift(good, 1));
            leaves("step", x -> x.step(good, 0, 1));
            leaves("peeled", x -> x.peeled(good, 1, 0));
            leaves("carried", x -> x.carried(good, 0));
            leaves("reads", x -> x.reads(good, 2));
            leaves("run", x -> x.run(good));
            leaves("cell", x -> x.cell(good, 0, 5));
            leaves("changed", x -> x.changed(good));
        }
    }

    private static void leaves(String call, Consumer<LoopFuser> question) {
        LoopFuser fuser = busy();
        question.accept(fuser);
        checks.due(call + " leaves the state", true, Picture.of(busy()).equals(Picture.of(fuser)));
    }
}
