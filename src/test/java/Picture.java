/**
 * All that the face shows of an object's state, as a text. A picture uses up the buffer and goes back to the
 * snapshot at its end, so an object is pictured once; two objects of the same calls have the same picture.
 */
final class Picture {
    private final LoopFuser fuser;
    private final StringBuilder text = new StringBuilder();

    private Picture(LoopFuser fuser) {
        this.fuser = fuser;
    }

    /** The buffer, the fault position, the program and the snapshot. */
    static String of(LoopFuser fuser) {
        Picture picture = new Picture(fuser);
        picture.note("buffer", fuser.append(0));
        picture.note("fault", fuser.faultPosition());
        picture.lookAtProgram();
        picture.lookAtBuffer();
        picture.lookAtSnapshot();
        return picture.text.toString();
    }

    /** The program and the snapshot alone. */
    static String ofProgram(LoopFuser fuser) {
        Picture picture = new Picture(fuser);
        picture.lookAtProgram();
        picture.lookAtSnapshot();
        return picture.text.toString();
    }

    private void note(String name, int answer) {
        text.append(name).append(' ').append(answer).append(' ');
    }

    private void lookAtProgram() {
        for (int option = 0; option < 3; option++) {
            int value = fuser.setOption(option, 0);
            fuser.setOption(option, value);
            note("option", value);
        }
        for (int loop = 0; loop < fuser.loopCount(); loop++) {
            lookAtLoop(loop);
        }
        for (int arrangement = 0; arrangement < 3; arrangement++) {
            note("groups", fuser.groupCount(arrangement));
            note("hits", fuser.reads(arrangement, 1));
            note("run", fuser.run(arrangement));
        }
    }

    private void lookAtLoop(int loop) {
        boolean barrier = fuser.setBarrier(loop, false);
        fuser.setBarrier(loop, barrier);
        note("\nloop", loop);
        note("barrier", barrier ? 1 : 0);
        note("first", fuser.bound(loop, 0));
        note("last", fuser.bound(loop, 1));
        for (int reference = 0; reference < fuser.referenceCount(loop); reference++) {
            for (int what = 0; what < 4; what++) {
                note("reference", fuser.reference(loop, reference, what));
            }
        }
        for (int statement = 0; statement < fuser.statementCount(loop); statement++) {
            note("height", fuser.height(loop, statement));
            note("value", fuser.value(loop, statement, fuser.bound(loop, 0)));
        }
    }

    /** The buffers of these tests want a brace to be whole. */
    private void lookAtBuffer() {
        try {
            fuser.append('}');
        } catch (IllegalStateException e) {
            text.append("\nfull buffer ");
        }
        try {
            note("\nread", fuser.read());
            lookAtLoop(fuser.loopCount() - 1);
        } catch (IllegalArgumentException | IllegalStateException e) {
            text.append("\nread refused ");
        }
        note("fault", fuser.faultPosition());
    }

    private void lookAtSnapshot() {
        try {
            fuser.restore();
            text.append("\nsnapshot ");
            lookAtProgram();
        } catch (IllegalStateException e) {
            text.append("\nno snapshot");
        }
    }
}
