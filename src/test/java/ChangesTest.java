import java.util.List;
import java.util.function.Consumer;

/**
 * Answers must tell of the present program, whatever was asked before. Each two changes, one after the other, are
 * made to an object that was asked everything before them, and to a twin that is asked only afterwards.
 */
final class ChangesTest {
    private static final Checks checks = new Checks();
    private static final List<Consumer<LoopFuser>> CHANGES = List.of(
            fuser -> { },
            fuser -> fuser.setBound(0, 1, 14),
            fuser -> fuser.setBound(1, 0, 8),
            fuser -> fuser.setBarrier(1, true),
            fuser -> fuser.setBarrier(Math.min(2, fuser.loopCount() - 1), false),
            fuser -> fuser.setOption(0, 0),
            fuser -> fuser.setOption(1, 0),
            fuser -> fuser.setOption(2, 1000),
            fuser -> fuser.removeLoop(0),
            fuser -> fuser.removeLoop(fuser.loopCount() - 1),
            fuser -> Checks.add(fuser, "for(0,20){b[i-1]=d[i+3]*2}"),
            LoopFuser::save,
            LoopFuser::restore);

    public static void main(String[] args) {
        for (int one = 0; one < CHANGES.size(); one++) {
            for (int other = 0; other < CHANGES.size(); other++) {
                LoopFuser asked = program();
                answers(asked);
                CHANGES.get(one).accept(asked);
                CHANGES.get(other).accept(asked);
                LoopFuser twin = program();
                CHANGES.get(one).accept(twin);
                CHANGES.get(other).accept(twin);
                String changes = "changes " + one + " and " + other;
                checks.due("all answers after " + changes, true, answers(twin).equals(answers(asked)));
                checks.due("answers asked again after " + changes, true, answers(twin).equals(answers(asked)));
            }
        }
        for (int change = 1; change < CHANGES.size() - 2; change++) {
            LoopFuser changed = program();
            CHANGES.get(change).accept(changed);
            checks.due("change " + change + " can be seen", false, answers(program()).equals(answers(changed)));
        }
        checks.finish();
    }

    private static LoopFuser program() {
        LoopFuser fuser = Checks.with("for(1,12){a[i]=b[i-1]+c[i+2]}for(0,9){d[i+1]=a[i+1]-a[i]*i}");
        fuser.save();
        Checks.add(fuser, "for(2,20){c[i]=d[i+3]+a[i]}for(0,9){e[i]=d[i-1]+c[i]}");
        fuser.setBarrier(2, true);
        return fuser;
    }

    private static String answers(LoopFuser fuser) {
        StringBuilder answers = new StringBuilder();
        int count = fuser.loopCount();
        for (int q = 0; q < count; q++) {
            for (int p = 0; p <= q; p++) {
                add(answers, fuser.isAllowed(p, q) ? 1 : 0, fuser.hits(p, q), p < q ? fuser.dependenceCount(p, q) : 0);
            }
        }
        for (int arrangement = 2; arrangement >= 0; arrangement--) {
            add(answers, fuser.groupCount(arrangement), fuser.run(arrangement), fuser.changed(arrangement));
            add(answers, fuser.cell(arrangement, 3, 4), fuser.reads(arrangement, 1), fuser.reads(arrangement, 2));
            for (int loop = 0; loop < count; loop++) {
                add(answers, fuser.groupOf(arrangement, loop), fuser.shift(arrangement, loop),
                        fuser.peeled(arrangement, loop, 0), fuser.peeled(arrangement, loop, 1));
            }
            for (int group = fuser.groupCount(arrangement) - 1; group >= 0; group--) {
                add(answers, fuser.carried(arrangement, group), fuser.step(arrangement, group, 0),
                        fuser.step(arrangement, group, 1));
            }
        }
        return answers.toString();
    }

    private static void add(StringBuilder answers, int... more) {
        for (int answer : more) {
            answers.append(answer).append(' ');
        }
    }
}
