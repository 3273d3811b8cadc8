/**
 * The sentences on arrays, loops and texts, promises 1 to 4, and "In doubt" as far as it is about texts: each
 * sentence that names an edge has a method of its own, which bears the sentence.
 */
final class TextEdgesTest {
    private static final Checks checks = new Checks();
    private static final Class<IllegalStateException> STATE = IllegalStateException.class;
    /** What stands ahead of an expression, 14 characters. */
    private static final String AHEAD = "for(0,0){a[i]=";
    private static final String SHORTEST = AHEAD + "1}";

    public static void main(String[] args) {
        fiveArrays();
        cellsOfAnArray();
        atMostSixLoops();
        numbersOfLoops();
        boundsOfALoop();
        statementsOfALoop();
        offsets();
        numbersOfReferences();
        repetitions();
        optionalParts();
        literals();
        letters();
        numbers();
        parentheses();
        fiveReferences();
        faultsOfCharacters();
        textsThatEndTooEarly();
        charactersThatCannotContinue();
        firstDigitOfABound();
        checkedAsSoonAsRead();
        onlyTheFirstFault();
        outOfRangeAtTheEnd();
        thirdDigits();
        readsOfTheRightSide();
        noSignedZero();
        tooManyLoops();
        parenthesesOfFor();
        bytesThatAreZero();
        charactersInTheBuffer();
        bufferIsEmptied();
        latestCallOfRead();
        checks.finish();
    }

    private static void fiveArrays() {
        checks.about("There are five arrays, a to e, numbered 0 to 4.");
        for (int array = 0; array < 5; array++) {
            char letter = (char) ('a' + array);
            LoopFuser fuser = Checks.with("for(0,0){" + letter + "[i]=" + letter + "[i]}");
            checks.due("number of array " + letter + " on the right", array, fuser.reference(0, 0, 0));
            checks.due("number of array " + letter + " on the left", array, fuser.reference(0, 1, 0));
        }
        for (char letter : new char[] {'`', 'f', 'A', 'E', 'z'}) {
            checks.fault(9, "for(0,0){" + letter + "[i]=1}");
            checks.fault(14, AHEAD + letter + "[i]}");
        }
    }

    private static void cellsOfAnArray() {
        checks.about("An array has the cells -9 to 39, which contain ints.");
        for (int array = 0; array < 5; array++) {
            char letter = (char) ('a' + array);
            LoopFuser fuser = Checks.with("for(0,0){" + letter + "[i-9]=99}for(30,30){" + letter + "[i+9]=i}");
            checks.due("cell -9 of " + letter, 99, fuser.cell(0, array, -9));
            checks.due("cell 39 of " + letter, 30, fuser.cell(0, array, 39));
            checks.due("no other cell is written", 2, fuser.changed(0));
            checks.due("cell -8 of " + letter, array + 1 - 56, fuser.cell(0, array, -8));
            checks.due("cell 38 of " + letter, array + 1 + 7 * 38, fuser.cell(0, array, 38));
            if (array > 0) {
                checks.due("cell 39 of the array before", array + 7 * 39, fuser.cell(0, array - 1, 39));
            }
            if (array < 4) {
                checks.due("cell -9 of the array behind", array + 2 - 63, fuser.cell(0, array + 1, -9));
            }
        }
        LoopFuser extremes = Checks.with("for(0,0){b[i]=a[i]}");
        for (int seed : new int[] {Integer.MIN_VALUE, Integer.MAX_VALUE}) {
            extremes.setOption(2, seed);
            checks.due("a cell contains " + seed, seed, extremes.cell(1, 1, 0));
        }
    }

    private static void atMostSixLoops() {
        checks.about("The program consists of at most 6 loops");
        LoopFuser fuser = Checks.with(SHORTEST.repeat(6));
        checks.due("six loops of one text", 6, fuser.loopCount());
        Checks.type(fuser, SHORTEST);
        checks.fails("read of a seventh loop", STATE, fuser::read);
        checks.due("loops", 6, fuser.loopCount());
        fuser.removeLoop(5);
        Checks.add(fuser, SHORTEST);
        checks.due("the sixth loop again", 6, fuser.loopCount());
        fuser.save();
        fuser.restore();
        Checks.type(fuser, SHORTEST);
        checks.fails("read of a seventh loop after restore", STATE, fuser::read);
        checks.due("loops after restore", 6, fuser.loopCount());
    }

    private static void numbersOfLoops() {
        checks.about("numbered from 0 in their order");
        LoopFuser fuser = Checks.with("for(0,9){a[i]=1}for(1,9){a[i]=1}", "for(2,9){a[i]=1}",
                "for(3,9){a[i]=1}for(4,9){a[i]=1}for(5,9){a[i]=1}");
        for (int loop = 0; loop < 6; loop++) {
            checks.due("first value of loop " + loop, loop, fuser.bound(loop, 0));
        }
    }

    private static void boundsOfALoop() {
        checks.about("where 0 <= first <= last <= 30");
        checks.fault(-1, "for(0,0){a[i]=1}");
        checks.fault(-1, "for(30,30){a[i]=1}");
        checks.fault(-1, "for(0,30){a[i]=1}");
        checks.fault(-1, "for(9,10){a[i]=1}");
        checks.fault(4, "for(31,31){a[i]=1}");
        checks.fault(7, "for(30,31){a[i]=1}");
        checks.fault(6, "for(0,31){a[i]=1}");
        checks.fault(6, "for(1,0){a[i]=1}");
        checks.fault(7, "for(30,29){a[i]=1}");
        checks.fault(7, "for(10,9){a[i]=1}");
        checks.fault(4, "for(-1,0){a[i]=1}");
    }

    private static void statementsOfALoop() {
        checks.about("and 1 to 4 statements");
        for (int count = 1; count <= 4; count++) {
            String text = "for(0,0){" + "a[i]=1;".repeat(count - 1) + "a[i]=1}";
            checks.fault(-1, text);
            checks.due("statements", count, Checks.with(text).statementCount(0));
        }
        checks.fault(9, "for(0,0){}");
        checks.fault(36, "for(0,0){" + "a[i]=1;".repeat(4) + "a[i]=1}");
    }

    private static void offsets() {
        checks.about("A reference to an array with an offset k from -9 to 9 means its cell i + k.");
        for (int k = -9; k <= 9; k++) {
            String offset = k < 0 ? String.valueOf(k) : "+" + k;
            LoopFuser fuser = Checks.with("for(0,30){b[i" + offset + "]=c[i" + offset + "]}");
            checks.due("read offset " + k, k, fuser.reference(0, 0, 1));
            checks.due("write offset " + k, k, fuser.reference(0, 1, 1));
            checks.due("value of c[i" + offset + "] for 0", 3 + 7 * k, fuser.value(0, 0, 0));
            checks.due("value of c[i" + offset + "] for 30", 3 + 7 * (30 + k), fuser.value(0, 0, 30));
            checks.due("the first cell written", 3 + 7 * k, fuser.cell(0, 1, k));
            checks.due("the last cell written", 3 + 7 * (30 + k), fuser.cell(0, 1, 30 + k));
            checks.due("cells written", 31, fuser.changed(0));
        }
        checks.fault(14, "for(0,0){a[i+10]=1}");
        checks.fault(14, "for(0,0){a[i-10]=1}");
        checks.fault(18, AHEAD + "a[i+");
        checks.fault(19, AHEAD + "a[i+99]}");
    }

    private static void numbersOfReferences() {
        checks.about("statement by statement, first those of the expression from left to right, which are reads, and "
                + "then that of the assignment, which is a write");
        LoopFuser fuser = Checks.with("for(0,0){a[i]=7;b[i]=c[i]*(d[i]-(e[i]+a[i-1]))+b[i+2];c[i]=c[i]}");
        int[][] due = {{0, 0, 1, 0}, {2, 0, 0, 1}, {3, 0, 0, 1}, {4, 0, 0, 1}, {0, -1, 0, 1}, {1, 2, 0, 1}, {1, 0, 1, 1},
            {2, 0, 0, 2}, {2, 0, 1, 2}};
        checks.due("references", due.length, fuser.referenceCount(0));
        for (int reference = 0; reference < due.length; reference++) {
            for (int what = 0; what < 4; what++) {
                checks.due("reference(0, " + reference + ", " + what + ")", due[reference][what],
                        fuser.reference(0, reference, what));
            }
        }
    }

    private static void repetitions() {
        checks.about("braces mean zero or more repetitions");
        checks.fault(0, "");
        checks.fault(-1, SHORTEST);
        checks.fault(-1, SHORTEST + SHORTEST);
        checks.fault(-1, AHEAD + "i}");
        checks.fault(-1, AHEAD + "i+i}");
        checks.fault(-1, AHEAD + "i-i+i-i}");
        checks.fault(-1, AHEAD + "i*i}");
        checks.fault(-1, AHEAD + "i*i*i*i}");
        checks.fault(-1, AHEAD + "i*i+i*i-i*i}");
        checks.fault(16, AHEAD + "i+}");
        checks.fault(16, AHEAD + "i*}");
        checks.fault(14, AHEAD + "-i}");
        checks.fault(16, SHORTEST + "}");
        checks.fault(16, SHORTEST + ";" + SHORTEST);
    }

    private static void optionalParts() {
        checks.about("brackets mean zero or one");
        checks.fault(-1, AHEAD + "b[i]}");
        checks.fault(-1, AHEAD + "b[i+1]}");
        checks.fault(19, AHEAD + "b[i+1+1]}");
        checks.fault(19, AHEAD + "b[i+1-1]}");
        checks.fault(18, AHEAD + "b[i+-1]}");
        checks.fault(18, AHEAD + "b[i+]}");
        checks.fault(17, AHEAD + "b[i1]}");
    }

    private static void literals() {
        checks.about("characters in quotes are meant literally");
        String whole = "for(1,2){a[i+1]=b[i-2]}";
        for (int at = 0; at < whole.length(); at++) {
            char sign = whole.charAt(at);
            if (sign != '1' && sign != '2' && sign != '-') {
                checks.fault(at, whole.substring(0, at) + "!" + whole.substring(at + 1));
                checks.fault(at, whole.substring(0, at) + "~" + whole.substring(at + 1));
            }
        }
        checks.fault(0, "For(1,2){a[i]=1}");
        checks.fault(11, "for(1,2){a[I]=1}");
        checks.fault(8, "for(1,2)(a[i]=1)");
        checks.fault(10, "for(1,2){a(i)=1}");
    }

    private static void letters() {
        checks.about("A letter is one of a to e");
        checks.fault(-1, "for(0,0){a[i]=e[i]}");
        checks.fault(-1, "for(0,0){e[i]=a[i]}");
        checks.fault(9, "for(0,0){i[i]=1}");
        checks.fault(15, AHEAD + "i[i]}");
        checks.fault(11, "for(0,0){a[a]=1}");
    }

    private static void numbers() {
        checks.about("a number has 1 or 2 digits and does not begin with 0, except for 0 itself");
        for (int number : new int[] {0, 1, 9, 10, 99}) {
            LoopFuser fuser = Checks.with(AHEAD + number + "}");
            checks.due("value of the number " + number, number, fuser.value(0, 0, 0));
        }
        checks.fault(15, AHEAD + "00}");
        checks.fault(15, AHEAD + "01}");
        checks.fault(15, AHEAD + "09}");
        checks.fault(16, AHEAD + "100}");
        checks.fault(16, AHEAD + "999}");
        checks.fault(14, AHEAD + "}");
        checks.fault(5, "for(00,0){a[i]=1}");
        checks.fault(5, "for(01,1){a[i]=1}");
        checks.fault(7, "for(0,00){a[i]=1}");
        checks.fault(7, "for(0,09){a[i]=1}");
        checks.fault(6, "for(100,100){a[i]=1}");
        checks.fault(4, "for(,0){a[i]=1}");
        checks.fault(6, "for(0,){a[i]=1}");
    }

    private static void parentheses() {
        checks.about("At most 3 parentheses may be open at the same time");
        checks.fault(-1, AHEAD + "(((1)))}");
        checks.fault(-1, AHEAD + "(1)+(2)+(3)+(4)}");
        checks.fault(-1, AHEAD + "(((1)+(2))*((3)-(4)))}");
        checks.fault(-1, AHEAD + "(((1)));a[i]=(((2)))}");
        checks.fault(17, AHEAD + "((((1))))}");
        checks.fault(23, AHEAD + "(((1)+2+((3))))}");
        checks.fault(21, AHEAD + "(1)+(((((");
    }

    private static void fiveReferences() {
        checks.about("and an expression has at most 5 references");
        String five = "b[i]+b[i]+b[i]+b[i]+b[i]";
        checks.fault(-1, AHEAD + five + "}");
        checks.fault(-1, AHEAD + "(b[i]+b[i])*(b[i]-(b[i]*b[i]))}");
        checks.fault(-1, AHEAD + five + ";c[i]=" + five + "}" + AHEAD + five + "}");
        checks.due("references", 6, Checks.with(AHEAD + five + "}").referenceCount(0));
        checks.fault(39, AHEAD + five + "+b[i]}");
        checks.fault(39, AHEAD + five + "*b[i]}");
    }

    private static void faultsOfCharacters() {
        checks.about("the index of its first character that cannot continue such a text");
        checks.fault(0, "x");
        checks.fault(0, ")or(0,0){a[i]=1}");
        checks.fault(119, AHEAD + "i+".repeat(52) + "i~");
        checks.fault(119, "for(0,0){a[i+1]=" + "i+".repeat(51) + "i!");
    }

    private static void textsThatEndTooEarly() {
        checks.about("or the length of the text if it ends too early");
        String whole = "for(1,12){a[i+1]=(b[i-2]-10)*i;c[i]=0}";
        for (int length = 0; length < whole.length(); length++) {
            checks.fault(length, whole.substring(0, length));
        }
        checks.fault(-1, whole);
        for (int length = 1; length < whole.length(); length++) {
            checks.fault(whole.length() + length, whole + whole.substring(0, length));
        }
        checks.fault(120, (AHEAD + "i+".repeat(53)).substring(0, 120));
    }

    private static void charactersThatCannotContinue() {
        checks.about("A fourth open parenthesis, the letter of a sixth reference of an expression and the \";\" before "
                + "a fifth statement cannot continue a text.");
        checks.fault(17, AHEAD + "((((");
        checks.fault(17, AHEAD + "(((((");
        checks.fault(19, AHEAD + "(((i*(");
        checks.fault(17, AHEAD + "(((");
        checks.fault(39, AHEAD + "b[i]+b[i]+b[i]+b[i]+b[i]+b");
        checks.fault(39, AHEAD + "b[i]+b[i]+b[i]+b[i]+b[i]+b!");
        checks.fault(39, AHEAD + "b[i]+b[i]+b[i]+b[i]+b[i]+");
        checks.fault(40, AHEAD + "b[i]+b[i]+b[i]+b[i]+b[i]+(e");
        checks.fault(36, AHEAD + "1;a[i]=1;a[i]=1;a[i]=1;");
        checks.fault(36, AHEAD + "1;a[i]=1;a[i]=1;a[i]=1");
    }

    private static void firstDigitOfABound() {
        checks.about("because it is above 30 or the last value is less than the first one, the fault position is the "
                + "index of the first digit of this number");
        for (int number = 0; number <= 99; number++) {
            checks.fault(number <= 30 ? -1 : 4, "for(" + number + "," + Math.min(number, 30) + "){a[i]=1}");
            checks.fault(number <= 30 ? -1 : 6, "for(0," + number + "){a[i]=1}");
            checks.fault(number >= 15 && number <= 30 ? -1 : 7, "for(15," + number + "){a[i]=1}");
        }
        checks.fault(20, SHORTEST + "for(31,0){a[i]=1}");
        checks.fault(22, SHORTEST + "for(7,6){a[i]=1}");
    }

    private static void checkedAsSoonAsRead() {
        checks.about("a number is checked as soon as no further digit follows that it can have, also at the end of the "
                + "text");
        checks.fault(4, "for(31");
        checks.fault(4, "for(99");
        checks.fault(6, "for(30");
        checks.fault(5, "for(9");
        checks.fault(6, "for(0,31");
        checks.fault(8, "for(0,30");
        checks.fault(7, "for(10,9");
        checks.fault(7, "for(10,0");
        checks.fault(9, "for(10,10");
        checks.fault(8, "for(9,10");
        checks.fault(6, "for(9,8");
        checks.fault(7, "for(9,9");
        checks.fault(7, "for(10,1)");
        checks.fault(7, "for(10,1~");
        checks.fault(7, "for(10,01");
        checks.fault(20, SHORTEST + "for(31");
        checks.fault(22, SHORTEST + "for(3,2");
    }

    private static void onlyTheFirstFault() {
        checks.about("The text is read from left to right, and only the first fault counts.");
        checks.fault(4, "for(31,99)(f[j]");
        checks.fault(6, "for(9,8)(f[j]");
        checks.fault(8, "for(9,9)(f[j]");
        checks.fault(9, "for(9,9){f[j]=((((1))))}for(31");
        checks.fault(15, AHEAD + "07}for(31,30)");
        checks.fault(17, AHEAD + "((((a[j]");
        checks.fault(16, SHORTEST + "gor(31,30)");
    }

    private static void outOfRangeAtTheEnd() {
        checks.about("A number that is out of range is a fault also where the text ends behind its last possible digit; "
                + "each number of a loop is looked at as soon as it is read, and of a third digit the digit is the fault.");
        checks.fault(4, "for(45");
        checks.fault(7, "for(20,19");
        checks.fault(6, "for(0,40");
        checks.fault(4, "for(31,0");
        checks.fault(4, "for(31x");
        checks.fault(6, "for(123");
        checks.fault(6, "for(300,0){a[i]=1}");
        checks.fault(8, "for(0,123){a[i]=1}");
        checks.fault(8, "for(0,300){a[i]=1}");
        checks.fault(16, AHEAD + "123}");
    }

    /** A number above 30 is a fault before its third digit is one; a number that is allowed leaves it to the digit. */
    private static void thirdDigits() {
        checks.about("of a third digit the digit is the fault. [..] only the first fault counts.");
        for (int number = 10; number <= 99; number++) {
            for (String rest : new String[] {"2", "0", "9,9){a[i]=1}", "29"}) {
                checks.fault(number <= 30 ? 6 : 4, "for(" + number + rest);
                checks.fault(number <= 30 ? 8 : 6, "for(0," + number + rest);
                checks.fault(number >= 20 && number <= 30 ? 9 : 7, "for(20," + number + rest);
            }
        }
        checks.fault(4, "for(312,999){a[i]=123}");
        checks.fault(6, "for(123,999){a[i]=123}");
        checks.fault(8, "for(0,123){a[i]=123}");
        checks.fault(16, "for(0,0){a[i]=312}");
        checks.fault(20, SHORTEST + "for(312");
        checks.fault(22, SHORTEST + "for(123");
    }

    private static void readsOfTheRightSide() {
        checks.about("Only reads of the right side count as references of an expression.");
        LoopFuser fuser = Checks.with("for(0,0){b[i]=b[i]*b[i]*b[i]*b[i]*b[i];c[i]=c[i]*c[i]*c[i]*c[i]*c[i]}");
        checks.due("references of both statements", 12, fuser.referenceCount(0));
        checks.fault(39, AHEAD + "a[i]*a[i]*a[i]*a[i]*a[i]*a[i]}");
    }

    private static void noSignedZero() {
        checks.about("Offsets +0 and -0 are 0.");
        LoopFuser fuser = Checks.with("for(3,3){a[i-0]=b[i+0]+b[i-0]-b[i]}for(3,3){c[i]=a[i]+a[i+0]+a[i-0]}");
        for (int reference = 0; reference < 4; reference++) {
            checks.due("offset of reference " + reference, 0, fuser.reference(0, reference, 1));
        }
        checks.due("value of b[i]", 2 + 21, fuser.value(0, 0, 3));
        checks.due("dependences", 3, fuser.dependenceCount(0, 1));
        checks.due("needed shift", 0, fuser.required(0, 1));
    }

    private static void tooManyLoops() {
        checks.about("Loops that would be too many leave all as it was, and no fault position.");
        LoopFuser fuser = Checks.with("for(1,9){a[i]=b[i]}".repeat(4));
        fuser.setBarrier(2, true);
        String before = stateOf(fuser);
        Checks.type(fuser, "for(");
        checks.fails("read of a fault", IllegalArgumentException.class, fuser::read);
        checks.due("an earlier fault position", 4, fuser.faultPosition());
        Checks.type(fuser, SHORTEST.repeat(3));
        checks.fails("read of three to four", STATE, fuser::read);
        checks.due("no fault position", -1, fuser.faultPosition());
        checks.due("characters", 0, fuser.append(0));
        checks.due("all as it was", true, before.equals(stateOf(fuser)));
        LoopFuser empty = new LoopFuser();
        Checks.type(empty, SHORTEST.repeat(7));
        checks.fails("read of seven", STATE, empty::read);
        checks.due("no fault position of seven", -1, empty.faultPosition());
        checks.due("loops of seven", 0, empty.loopCount());
    }

    private static String stateOf(LoopFuser fuser) {
        StringBuilder state = new StringBuilder().append(fuser.loopCount());
        for (int loop = 0; loop < fuser.loopCount(); loop++) {
            boolean barrier = fuser.setBarrier(loop, false);
            fuser.setBarrier(loop, barrier);
            state.append(' ').append(barrier).append(fuser.bound(loop, 0)).append(fuser.bound(loop, 1));
            state.append(' ').append(fuser.referenceCount(loop)).append(fuser.statementCount(loop));
        }
        return state.append(' ').append(fuser.run(1)).append(' ').append(fuser.reads(2, 0)).toString();
    }

    private static void parenthesesOfFor() {
        checks.about("Parentheses of for( do not count as open");
        checks.fault(-1, AHEAD + "(((1)))}" + AHEAD + "(((1)))}" + AHEAD + "(((1)))}");
        checks.fault(39, AHEAD + "(((1)))}" + AHEAD + "((((1)))}");
    }

    private static void bytesThatAreZero() {
        checks.about("where bytes that are 0 are skipped");
        LoopFuser fuser = new LoopFuser();
        checks.due("no byte", 0, fuser.append(0));
        checks.due("the most significant byte", 1, fuser.append('f' << 24));
        checks.due("the second byte", 2, fuser.append('o' << 16));
        checks.due("the third byte", 3, fuser.append('r' << 8));
        checks.due("the least significant byte", 4, fuser.append('('));
        checks.due("two with zeros between", 6, fuser.append('1' << 24 | ','));
        checks.due("four in their order", 10, fuser.append('2' << 24 | ')' << 16 | '{' << 8 | 'a'));
        checks.due("three", 13, fuser.append('[' << 16 | 'i' << 8 | ']'));
        checks.due("two", 15, fuser.append('=' << 24 | '7' << 8));
        checks.due("no byte again", 15, fuser.append(0));
        checks.due("the last one", 16, fuser.append('}' << 24));
        checks.due("read", 1, fuser.read());
        checks.due("first", 1, fuser.bound(0, 0));
        checks.due("last", 2, fuser.bound(0, 1));
        checks.due("value", 7, fuser.value(0, 0, 1));
    }

    private static void charactersInTheBuffer() {
        checks.about("Throws IllegalStateException if there would be more than 120 characters");
        String full = AHEAD + "i+".repeat(52) + "1}";
        checks.due("characters of the full text", 120, full.length());
        LoopFuser fuser = new LoopFuser();
        Checks.type(fuser, full);
        checks.fails("append of one more", STATE, () -> fuser.append('}'));
        checks.due("read of the full buffer", 1, fuser.read());
        checks.due("its value", 1, fuser.value(0, 0, 0));
        checks.due("its height", 53, fuser.height(0, 0));
        checks.due("its operators", 52, fuser.operators(0, 0, 0));
        Checks.type(fuser, full);
        checks.due("the buffer may be filled again", 120, fuser.append(0));
        LoopFuser six = Checks.with("for(0,0){a[i]=i*12}".repeat(6));
        checks.due("six loops of one text", 6, six.loopCount());
    }

    private static void bufferIsEmptied() {
        checks.about("The buffer is emptied, also if an exception is thrown; then no loop is added.");
        LoopFuser fuser = Checks.with(SHORTEST);
        checks.due("after a read", 0, fuser.append(0));
        checks.fails("read of the empty buffer", IllegalArgumentException.class, fuser::read);
        checks.due("fault position of the empty buffer", 0, fuser.faultPosition());
        checks.due("loops after the empty buffer", 1, fuser.loopCount());
        Checks.type(fuser, SHORTEST + "x");
        checks.fails("read of a fault behind a loop", IllegalArgumentException.class, fuser::read);
        checks.due("after a fault", 0, fuser.append(0));
        checks.due("loops after a fault", 1, fuser.loopCount());
        Checks.type(fuser, SHORTEST.repeat(6));
        checks.fails("read of six to one", STATE, fuser::read);
        checks.due("after too many", 0, fuser.append(0));
        checks.due("loops after too many", 1, fuser.loopCount());
        Checks.type(fuser, SHORTEST.repeat(5));
        checks.due("read of five to one", 5, fuser.read());
    }

    private static void latestCallOfRead() {
        checks.about("Returns the fault position, or -1 if the text had no fault or read has not been called.");
        LoopFuser fuser = new LoopFuser();
        checks.due("before read", -1, fuser.faultPosition());
        checks.fails("read of nothing", IllegalArgumentException.class, fuser::read);
        checks.due("of nothing", 0, fuser.faultPosition());
        Checks.add(fuser, SHORTEST);
        checks.due("of a good text", -1, fuser.faultPosition());
        Checks.type(fuser, SHORTEST + "f");
        checks.fails("read of a text too short", IllegalArgumentException.class, fuser::read);
        checks.due("of a text too short", 17, fuser.faultPosition());
        fuser.save();
        fuser.removeLoop(0);
        fuser.restore();
        checks.fails("append of a wrong byte", IllegalArgumentException.class, () -> fuser.append(1));
        Checks.type(fuser, SHORTEST);
        checks.due("of the latest call of read", 17, fuser.faultPosition());
        fuser.read();
        checks.due("of the next good text", -1, fuser.faultPosition());
    }
}
