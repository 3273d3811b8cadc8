/** Promises 1 to 4: a new object, append, read and faultPosition. */
final class TextsTest {
    private static final Checks checks = new Checks();
    private static final Class<IllegalArgumentException> ARGUMENT = IllegalArgumentException.class;
    private static final Class<IllegalStateException> STATE = IllegalStateException.class;
    private static final String SHORTEST = "for(0,0){a[i]=1}";
    /** What stands ahead of an expression, 14 characters. */
    private static final String AHEAD = "for(0,0){a[i]=";

    public static void main(String[] args) {
        promise1NewObject();
        promise2Append();
        promise2AppendLimit();
        promise3Read();
        promise3TooManyLoops();
        promise4FaultPosition();
        faultsOfWords();
        faultsOfBounds();
        faultsOfReferences();
        faultsOfExpressions();
        faultsOfStatements();
        checks.finish();
    }

    private static void promise1NewObject() {
        LoopFuser fuser = new LoopFuser();
        checks.due("loops of a new object", 0, fuser.loopCount());
        checks.due("fault position of a new object", -1, fuser.faultPosition());
        checks.due("characters of a new object", 0, fuser.append(0));
        checks.due("limit of a new object", 9, fuser.setOption(0, 9));
        checks.due("window of a new object", 3, fuser.setOption(1, 3));
        checks.due("seed of a new object", 1, fuser.setOption(2, 1));
        checks.fails("restore of a new object", STATE, fuser::restore);
        for (int arrangement = 0; arrangement < 3; arrangement++) {
            checks.due("groups of a new object", 0, fuser.groupCount(arrangement));
            checks.due("cell of a new object", 2 + 7 * 5, fuser.cell(arrangement, 1, 5));
        }
    }

    private static void promise2Append() {
        LoopFuser fuser = new LoopFuser();
        checks.due("append of nothing", 0, fuser.append(0));
        checks.due("append of one", 1, fuser.append('f'));
        checks.due("append with zeros between", 3, fuser.append('o' << 24 | 'r' << 8));
        checks.due("append of three", 6, fuser.append('(' << 24 | '0' << 16 | ','));
        Checks.type(fuser, "0){a[i]=i}");
        checks.due("read of appended characters", 1, fuser.read());
        LoopFuser edges = new LoopFuser();
        checks.due("append of the least and the greatest character", 4, edges.append(33 << 24 | 126 << 16 | 33 << 8 | 126));
        for (int bad : new int[] {1, 10, 32, 127, 128, 255}) {
            for (int place = 0; place < 32; place += 8) {
                int alone = bad << place;
                int among = 0x41414141 & ~(255 << place) | alone;
                checks.fails("append of byte " + bad + " among others", ARGUMENT, () -> edges.append(among));
                checks.fails("append of byte " + bad + " alone", ARGUMENT, () -> edges.append(alone));
            }
        }
        checks.due("characters after refused ones", 4, edges.append(0));
        checks.fails("append of -1", ARGUMENT, () -> edges.append(-1));
    }

    private static void promise2AppendLimit() {
        LoopFuser fuser = new LoopFuser();
        for (int n = 0; n < 29; n++) {
            fuser.append(Checks.packed("abcd"));
        }
        checks.due("append up to 118", 118, fuser.append(Checks.packed("ab")));
        checks.fails("append of three to 118", STATE, () -> fuser.append(Checks.packed("abc")));
        checks.due("characters after too many", 118, fuser.append(0));
        checks.due("append up to 120", 120, fuser.append('a' << 24 | 'b'));
        checks.due("append of nothing to 120", 120, fuser.append(0));
        checks.fails("append to 120", STATE, () -> fuser.append('a'));
        checks.fails("append of a wrong byte to 120", ARGUMENT, () -> fuser.append(Checks.packed("a b")));
        checks.due("characters at the end", 120, fuser.append(0));
        checks.fails("read of 120 wrong characters", ARGUMENT, fuser::read);
        checks.due("append after read", 4, fuser.append(Checks.packed("abcd")));
    }

    private static void promise3Read() {
        LoopFuser fuser = new LoopFuser();
        Checks.type(fuser, "for(1,2){a[i]=b[i]}for(3,4){c[i-1]=d[i+2];e[i]=i}");
        checks.due("read of two loops", 2, fuser.read());
        checks.due("loops after read", 2, fuser.loopCount());
        checks.due("characters after read", 0, fuser.append(0));
        Checks.type(fuser, "for(5,6){b[i]=0}");
        checks.due("read of one more loop", 1, fuser.read());
        checks.due("the new loop is the last one", 5, fuser.bound(2, 0));
        checks.due("the first loop stays", 1, fuser.bound(0, 0));
        checks.due("first statement's array", 2, fuser.reference(1, 1, 0));
        Checks.type(fuser, SHORTEST + "for(0,0){a[i]=}");
        checks.fails("read with a fault in the second loop", ARGUMENT, fuser::read);
        checks.due("loops after a fault", 3, fuser.loopCount());
        checks.due("characters after a fault", 0, fuser.append(0));
        checks.fails("read of nothing", ARGUMENT, fuser::read);
        checks.due("fault position of nothing", 0, fuser.faultPosition());
    }

    private static void promise3TooManyLoops() {
        LoopFuser fuser = Checks.with(SHORTEST + SHORTEST + SHORTEST, SHORTEST + SHORTEST);
        Checks.type(fuser, "for(0,0){b[i]=1}for(0,0){c[i]=1}");
        checks.fails("read of a seventh loop", STATE, fuser::read);
        checks.due("loops after too many", 5, fuser.loopCount());
        checks.due("characters after too many loops", 0, fuser.append(0));
        checks.due("fault position after too many loops", -1, fuser.faultPosition());
        Checks.type(fuser, "for(0,0){d[i]=1}");
        checks.due("read of the sixth loop", 1, fuser.read());
        checks.due("array of the sixth loop", 3, fuser.reference(5, 0, 0));
        Checks.type(fuser, "for(0,0){d[i]=1");
        checks.fails("a fault comes ahead of too many loops", ARGUMENT, fuser::read);
        checks.due("fault position with six loops", 15, fuser.faultPosition());
        String seven = SHORTEST + SHORTEST + SHORTEST + SHORTEST + SHORTEST + SHORTEST + SHORTEST;
        LoopFuser other = new LoopFuser();
        Checks.type(other, seven);
        checks.fails("read of seven loops at once", STATE, other::read);
        checks.due("fault position of seven loops", -1, other.faultPosition());
        checks.due("loops after seven at once", 0, other.loopCount());
        fault(112, seven + "x");
        fault(120, seven + "for(0,0)");
        fault(120, seven + "for(0,5)");
        fault(116, seven + "for(45,5");
    }

    private static void promise4FaultPosition() {
        LoopFuser fuser = new LoopFuser();
        Checks.type(fuser, "for(x");
        checks.due("fault position before read", -1, fuser.faultPosition());
        checks.fails("read with a fault", ARGUMENT, fuser::read);
        checks.due("fault position after read", 4, fuser.faultPosition());
        Checks.type(fuser, SHORTEST);
        checks.due("fault position after more text", 4, fuser.faultPosition());
        fuser.read();
        checks.due("fault position of a text without fault", -1, fuser.faultPosition());
        fault(-1, SHORTEST);
        fault(-1, SHORTEST + SHORTEST);
    }

    private static void faultsOfWords() {
        fault(0, "");
        fault(0, "F");
        fault(0, "a[i]=1");
        fault(1, "f");
        fault(2, "fo");
        fault(2, "fox");
        fault(2, "fofor(x");
        fault(3, "for");
        fault(3, "for{");
        fault(4, "for(");
        fault(5, "for(0");
        fault(5, "for(0)");
        fault(6, "for(0,");
        fault(7, "for(0,0");
        fault(7, "for(0,0,");
        fault(8, "for(0,0)");
        fault(8, "for(0,0)a");
        fault(9, "for(0,0){");
        fault(16, SHORTEST + "x");
        fault(16, SHORTEST + ";");
        fault(17, SHORTEST + "f");
        fault(25, SHORTEST + "for(0,0){");
        fault(25, SHORTEST + "for(0,0){}");
    }

    private static void faultsOfBounds() {
        fault(-1, "for(30,30){a[i]=0}");
        fault(-1, "for(0,30){a[i]=0}");
        fault(4, "for(x");
        fault(4, "for(,");
        fault(4, "for(-1,0)");
        fault(5, "for(3");
        fault(5, "for(4");
        fault(5, "for(00,1)");
        fault(5, "for(05,1)");
        fault(6, "for(12");
        fault(6, "for(30");
        fault(4, "for(31");
        fault(4, "for(31,");
        fault(4, "for(99,99)");
        fault(4, "for(31x");
        fault(4, "for(312");
        fault(6, "for(123");
        fault(6, "for(300");
        fault(6, "for(5,");
        fault(6, "for(5,x");
        fault(7, "for(5,5");
        fault(6, "for(5,4");
        fault(6, "for(5,4)");
        fault(6, "for(5,4x");
        fault(6, "for(5,1");
        fault(8, "for(5,10");
        fault(6, "for(5,31)");
        fault(6, "for(5,45");
        fault(8, "for(5,123)");
        fault(6, "for(5,0");
        fault(6, "for(5,05");
        fault(7, "for(0,05");
        fault(7, "for(12,11)");
        fault(7, "for(12,1");
        fault(20, SHORTEST + "for(31,31)");
        fault(22, SHORTEST + "for(2,1)");
    }

    private static void faultsOfReferences() {
        fault(9, "for(0,0){f[i]=1}");
        fault(9, "for(0,0){A[i]=1}");
        fault(9, "for(0,0){`[i]=1}");
        fault(9, "for(0,0){1=1}");
        fault(-1, "for(0,0){e[i]=1}");
        fault(10, "for(0,0){e");
        fault(10, "for(0,0){e(");
        fault(11, "for(0,0){e[");
        fault(11, "for(0,0){e[1");
        fault(12, "for(0,0){e[i");
        fault(12, "for(0,0){e[i*");
        fault(12, "for(0,0){e[i1");
        fault(13, "for(0,0){e[i+");
        fault(13, "for(0,0){e[i+]");
        fault(13, "for(0,0){e[i-i]");
        fault(14, "for(0,0){e[i-9");
        fault(14, "for(0,0){e[i-10]");
        fault(13, "for(0,0){e[i]");
        fault(13, "for(0,0){e[i]+");
        fault(14, "for(0,0){e[i]=");
        fault(-1, "for(0,0){e[i+0]=e[i-0]}");
        fault(-1, "for(0,0){e[i+9]=e[i-9]}");
        fault(14, AHEAD + "f[i]}");
        fault(16, AHEAD + "a[j]}");
        fault(18, AHEAD + "a[i+x]}");
    }

    private static void faultsOfExpressions() {
        fault(14, AHEAD + "}");
        fault(14, AHEAD + "+1}");
        fault(14, AHEAD + "*1}");
        fault(15, AHEAD + "i");
        fault(15, AHEAD + "ii}");
        fault(15, AHEAD + "2i}");
        fault(15, AHEAD + "i2}");
        fault(16, AHEAD + "12i}");
        fault(16, AHEAD + "i+}");
        fault(16, AHEAD + "i--1}");
        fault(16, AHEAD + "i**1}");
        fault(15, AHEAD + "07}");
        fault(15, AHEAD + "00}");
        fault(16, AHEAD + "100}");
        fault(-1, AHEAD + "99}");
        fault(-1, AHEAD + "0+10-9*i}");
        fault(15, AHEAD + "(");
        fault(15, AHEAD + "()}");
        fault(16, AHEAD + "(i");
        fault(16, AHEAD + "(i}");
        fault(16, AHEAD + "(i;");
        fault(15, AHEAD + "i)}");
        fault(17, AHEAD + "(i)i}");
        fault(-1, AHEAD + "(((i)))}");
        fault(-1, AHEAD + "(((i)))*(((1)+(2)))}");
        fault(17, AHEAD + "((((i))))}");
        fault(17, AHEAD + "((((");
        fault(22, AHEAD + "1+(2+((3(");
        fault(23, AHEAD + "1+(2+((3+(4");
        fault(21, AHEAD + "(((i)))i");
        fault(21, AHEAD + "(((i))))");
        fault(-1, AHEAD + "a[i]+b[i]*c[i]-(d[i]+e[i])}");
        fault(39, AHEAD + "a[i]+a[i]+a[i]+a[i]+a[i]+a[i]}");
        fault(39, AHEAD + "a[i]+a[i]+a[i]+a[i]+a[i]+f[i]}");
        fault(-1, AHEAD + "a[i]+a[i]+a[i]+a[i]+a[i]+1}");
        fault(-1, AHEAD + "a[i]+a[i]+a[i]+a[i]+a[i]+(i)}");
        fault(40, AHEAD + "a[i]+a[i]+a[i]+a[i]+a[i]+(a[i])}");
        fault(40, AHEAD + "a[i]+a[i]+a[i]+a[i]+a[i]+(");
        fault(39, AHEAD + "a[i]+a[i]+a[i]+a[i]+a[i]+");
    }

    private static void faultsOfStatements() {
        fault(16, AHEAD + "1;");
        fault(16, AHEAD + "1;}");
        fault(16, AHEAD + "1;;");
        fault(15, AHEAD + "1,");
        fault(-1, AHEAD + "1;a[i]=1}");
        fault(-1, AHEAD + "1;a[i]=1;a[i]=1;a[i]=1}");
        fault(36, AHEAD + "1;a[i]=1;a[i]=1;a[i]=1;");
        fault(36, AHEAD + "1;a[i]=1;a[i]=1;a[i]=1;a[i]=1}");
        fault(36, AHEAD + "1;a[i]=1;a[i]=1;a[i]=1");
        fault(-1, AHEAD + "1;a[i]=1;a[i]=1;a[i]=1}" + AHEAD + "1;b[i]=1}");
        fault(-1, AHEAD + "a[i]+a[i]+a[i]+a[i]+a[i];a[i]=a[i]+a[i]+a[i]+a[i]+a[i]}");
    }

    private static void fault(int want, String text) {
        checks.fault(want, text);
    }
}
