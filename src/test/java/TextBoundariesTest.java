/** Each sentence of the document that names a boundary of a text or of the TAPE: a call at it, and one beyond it. */
public final class TextBoundariesTest {
    private static final Class<?> ARGUMENT = IllegalArgumentException.class;
    private static final Class<?> REFUSED = UnsupportedOperationException.class;
    private static final int NONE = GuestView.NONE;

    private final Due due = new Due();

    public static void main(String[] args) {
        TextBoundariesTest test = new TextBoundariesTest();
        test.fullTape();
        test.endOfTape();
        test.twelveTexts();
        test.fourteenLines();
        test.eightOps();
        test.threeMicros();
        test.numbersOfMicros();
        test.tenInProgram();
        test.opsByThen();
        test.eightCells();
        test.settings();
        test.threeDigits();
        test.blanks();
        test.lettersAndDigits();
        test.textsLength();
        test.firstOfSeveral();
        test.nothingStays();
        test.bootsBehindTexts();
        test.noLines();
        test.twelveLines();
        test.amounts();
        test.numbersInSums();
        test.sixDeep();
        test.depthEnds();
        test.comparisons();
        test.partsOfOp();
        test.longConditions();
        test.mostOfLaw();
        test.faultOfLatest();
        test.rowsOnTape();
        test.oneRowWrong();
        test.fewerThanTwo();
        test.due.finish();
    }

    private void rightBench(GuestView x, String text) {
        int texts = x.count(1);
        due.is("bench '" + text + "'", Due.bench(x, text), texts + 1);
        due.is("fault of '" + text + "'", x.fault(), NONE);
    }

    private void rightLaw(GuestView x, String text, int lines) {
        due.is("law '" + text + "'", Due.law(x, text), lines);
        due.is("fault of '" + text + "'", x.fault(), NONE);
        due.is("count(2) of '" + text + "'", x.count(2), lines);
    }

    // feed: NONE, and none come, if it would have more than 400
    private void fullTape() {
        GuestView x = new GuestView();
        for (int n = 20; n <= 380; n += 20) {
            x.feed(0x20202020, 0x20202020, 0x20202020, 0x20202020, 0x20202020);
        }
        // "cost 5" are the last six bytes of 400.
        due.is("the 400th byte", x.feed(0x20202020, 0x20202020, 0x20202020, 0x2020636f, 0x73742035), 400);
        due.is("none come beyond 400", x.feed(-1, -1, -1, -1, -1), NONE);
        due.is("the text of 400 bytes", x.bench(), 1);
        due.is("its last byte", x.count(6), 5);
        due.is("the TAPE is empty again", x.feed(0, 0, 0, 0, 0), 20);
        x.end(0);
        due.wrongBench(x, " ".repeat(399) + "#", 399);
        due.wrongBench(x, " ".repeat(398) + "op", 400);
        due.wrongLaw(x, " ".repeat(396) + "cost", 400);
        for (int n = 20; n <= 400; n += 20) {
            x.feed(0, 0, 0, 0, 0);
        }
        x.end(380);
        due.is("380 and 20", x.feed(0, 0, 0, 0, 0), 400);
        x.end(381);
        due.is("381 and 20", x.feed(0, 0, 0, 0, 0), NONE);
        due.is("it has 381 still", x.end(382), false);
    }

    // end: false, and nothing happens, if it has fewer, or n is below 0
    private void endOfTape() {
        GuestView x = new GuestView();
        due.is("end(0) of none", x.end(0), true);
        due.is("end(1) of none", x.end(1), false);
        due.is("end(-1) of none", x.end(-1), false);
        x.feed(0x636f7374, 0x20332020, 0x20202020, 0x20202020, 0x23232323);
        due.is("end(21) of 20", x.end(21), false);
        due.is("end(most) of 20", x.end(Integer.MAX_VALUE), false);
        due.is("end(least) of 20", x.end(Integer.MIN_VALUE), false);
        due.is("end(-1) of 20", x.end(-1), false);
        due.is("end(20) of 20", x.end(20), true);
        due.is("end(16)", x.end(16), true);
        due.is("end(17) of 16", x.end(17), false);
        due.is("the text", x.bench(), 1);
        due.is("cost", x.count(6), 3);
        x.feed(0x23232323, 0, 0, 0, 0);
        due.is("end(0)", x.end(0), true);
        due.is("end(1) of none", x.end(1), false);
        due.is("the empty text", x.bench(), 2);
        due.is("feed behind end", x.feed(0, 0, 0, 0, 0), 20);
    }

    // THE BENCH is told in texts (at most 12); UnsupportedOperationException: there are 12
    private void twelveTexts() {
        GuestView x = new GuestView();
        for (int n = 1; n <= 11; n++) {
            due.is("text " + n, Due.bench(x, n % 2 == 0 ? "" : "vector " + n % 10), n);
            Due.tape(x, "cost");
            due.throwing("a wrong one is not counted", ARGUMENT, x::bench);
        }
        x.image();
        due.is("the 12th", Due.bench(x, "cost 3"), 12);
        String before = Due.seen(x);
        Due.tape(x, "cost 4");
        due.throwing("the 13th", REFUSED, x::bench);
        due.is("the TAPE is used up", x.end(1), false);
        due.is("the 13th was no wrong text", x.fault(), NONE);
        due.throwing("the 13th, empty", REFUSED, x::bench);
        Due.tape(x, "cost 8");
        due.throwing("the 13th, wrong: what is told first", ARGUMENT, x::bench);
        due.is("its fault", x.fault(), 5);
        due.is("nothing has changed", Due.seen(x), before);
        due.is("a law is no text of THE BENCH", Due.law(x, "cost 1"), 1);
        x.back();
        due.is("back to eleven", x.count(1), 11);
        due.is("the 12th again", Due.bench(x, "cost 5"), 12);
        Due.tape(x, "");
        due.throwing("the 13th again", REFUSED, x::bench);
    }

    // LINE { ; LINE }, at most 14
    private void fourteenLines() {
        String thirteen = "cost 1;".repeat(13);
        GuestView x = new GuestView();
        rightBench(x, thirteen + "cost 7");
        due.is("the 14th LINE", x.count(6), 7);
        due.wrongBench(x, thirteen + "cost 1;cost 2", 98);
        due.wrongBench(x, thirteen + "cost 1 ;  cost 2", 101);
        due.wrongBench(x, thirteen + "cost 1;", 98);
        due.wrongBench(x, thirteen + "cost 1;  ", 100);
        due.wrongBench(x, thirteen + "cost 1;5", 98);
        due.wrongBench(x, thirteen + "cost 1;fly", 98);
        due.wrongBench(x, thirteen + "cost 8;cost 1", 96);
        rightBench(x, "program;".repeat(13) + "vector 6");
        due.is("14 LINES of another text", x.count(4), 6);
    }

    // OPS (at most 8); an OP too many: wrong at the first word
    private void eightOps() {
        GuestView x = new GuestView();
        due.wrongBench(x, "op rise;".repeat(8) + "op drop", 64);
        due.wrongBench(x, "op rise;".repeat(8) + "op fly", 64);
        due.wrongBench(x, "op rise;".repeat(8) + "fly", 64);
        due.is("none stay", x.count(0), 0);
        rightBench(x, "op rise;".repeat(8) + "program 7");
        due.is("eight", x.count(0), 8);
        due.wrongBench(x, "op drop", 0);
        due.wrongBench(x, "cost 1;  op", 9);
        due.is("eight still", x.count(0), 8);
        GuestView y = new GuestView();
        rightBench(y, "op rise;".repeat(6) + "op drop");
        due.wrongBench(y, "op who;op time", 7);
        due.is("seven still", y.count(0), 7);
        rightBench(y, "op who");
        due.is("the eighth KIND", y.micro(7, 0, false), 7);
        due.wrongBench(y, "op time", 0);
    }

    // W: at most three, else it is wrong at the 4th one
    private void threeMicros() {
        GuestView x = new GuestView();
        due.wrongBench(x, "op add 1 add 2 add 3 add 4", 21);
        due.wrongBench(x, "op guarded who who who time;cost 1", 23);
        due.wrongBench(x, "op rise drop move fly", 18);
        due.wrongBench(x, "op rise drop move 1", 18);
        due.wrongBench(x, "op add 1 add 2 add 3 4", 21);
        rightBench(x, "op rise;op skip 1 skip 2;op guarded add 1 load 2 save 3");
        for (int op = 0; op < 3; op++) {
            due.is("how many", x.op(op, 0), op + 1);
            due.is("the last MICRO", x.micro(op, op, true), op == 0 ? 0 : op == 1 ? 2 : 3);
            due.is("none behind it", x.micro(op, op + 1, true), NONE);
            due.is("none behind it", x.micro(op, op + 1, false), NONE);
            due.is("none ahead", x.micro(op, -1, false), NONE);
            due.is("none there", x.micro(op, Integer.MAX_VALUE, false), NONE);
            due.is("none there", x.micro(op, Integer.MIN_VALUE, true), NONE);
        }
    }

    // N 0 to 7 of some
    private void numbersOfMicros() {
        String[] some = {"add", "load", "save", "skip"};
        int[] kinds = {0, 1, 2, 9};
        GuestView x = new GuestView();
        for (int k = 0; k < 4; k++) {
            int at = some[k].length() + 4;
            due.wrongBench(x, "op " + some[k] + " 8", at);
            due.wrongBench(x, "op " + some[k] + " 999", at);
            due.wrongBench(x, "op " + some[k] + " 0007", at);
            due.wrongBench(x, "op " + some[k] + " rise", at);
            due.wrongBench(x, "op " + some[k], at - 1);
            rightBench(x, "op " + some[k] + " 0 " + some[k] + " 7");
            for (int n = 0; n < 2; n++) {
                due.is("KIND", x.micro(k, n, false), kinds[k]);
                due.is("N", x.micro(k, n, true), 7 * n);
            }
        }
        for (String other : "rise drop move where who time quiet".split(" ")) {
            due.wrongBench(x, "op " + other + " 0", other.length() + 4);
        }
        rightBench(x, "op rise drop move;op where who time;op quiet");
        int[] without = {3, 4, 5, 6, 7, 8, 10};
        for (int n = 0; n < 7; n++) {
            due.is("KIND", x.micro(4 + n / 3, n % 3, false), without[n]);
            due.is("N of a KIND without", x.micro(4 + n / 3, n % 3, true), 0);
        }
    }

    // program: none, or at most 10, else it is wrong at the 11th one, in place of the one before
    private void tenInProgram() {
        GuestView x = Due.with("op rise");
        rightBench(x, "program" + " 0".repeat(10));
        due.is("ten", x.count(3), 10);
        due.is("the tenth", x.program(9), 0);
        due.is("no eleventh", x.program(10), NONE);
        due.wrongBench(x, "program" + " 0".repeat(11), 28);
        due.wrongBench(x, "program" + " 0".repeat(10) + " 9", 28);
        due.wrongBench(x, "program" + " 0".repeat(10) + " rise", 28);
        due.is("ten still", x.count(3), 10);
        rightBench(x, "program 0");
        due.is("one in place", x.count(3), 1);
        due.is("no second", x.program(1), NONE);
        rightBench(x, "program");
        due.is("none in place", x.count(3), 0);
        due.is("no first", x.program(0), NONE);
        rightBench(x, "program 0 0;program;cost 1");
        due.is("the later LINE", x.count(3), 0);
        rightBench(x, "program 0 0 ;program 0 0 0");
        due.is("the later LINE", x.count(3), 3);
        due.wrongBench(x, "program rise", 8);
        due.wrongBench(x, "program 0 rise", 10);
        due.wrongBench(x, "program 0 -1", 10);
    }

    // program: OPS that there are by then
    private void opsByThen() {
        GuestView x = new GuestView();
        due.wrongBench(x, "program 0", 8);
        due.wrongBench(x, "program 0;op rise", 8);
        due.wrongBench(x, "op rise;program 0 1;op drop", 18);
        rightBench(x, "op rise;op drop;program 1 0");
        due.is("the last OP", x.program(0), 1);
        due.wrongBench(x, "program 1 2", 10);
        due.is("LEAST of two", x.least(), 2 + 1);
        rightBench(x, "op who;program 2");
        due.is("an OP of a later text", x.program(0), 2);
        due.is("an OP of a later text is MODAL", x.op(2, 4), 1);
        due.is("an OP of a later text", x.least(), 4 + 2 + 1);
        rightBench(x, "op rise;op rise;op rise;op rise;op rise;program 7");
        due.wrongBench(x, "program 8", 8);
    }

    // cells D { D }: D 0 to 3, from CELL 0 on, at most 8, else it is wrong at the 9th one
    private void eightCells() {
        GuestView x = new GuestView();
        rightBench(x, "cells 3 0 1 2 3 0 1 2");
        for (int cell = 0; cell < 8; cell++) {
            due.is("CELL", x.cell(cell), (3 + cell) % 4);
        }
        due.wrongBench(x, "cells 0 0 0 0 0 0 0 0 0", 22);
        due.wrongBench(x, "cells 0 0 0 0 0 0 0 0 9", 22);
        due.wrongBench(x, "cells 0 0 0 0 0 0 0 0 fly", 22);
        due.wrongBench(x, "cells", 5);
        due.wrongBench(x, "cells;", 5);
        due.wrongBench(x, "cells fly", 6);
        due.wrongBench(x, "cells 4", 6);
        due.wrongBench(x, "cells 3 4", 8);
        due.wrongBench(x, "cells 0 0 0 0 0 0 0 4", 20);
        for (int cell = 0; cell < 8; cell++) {
            due.is("CELL still", x.cell(cell), (3 + cell) % 4);
        }
        rightBench(x, "cells 1");
        due.is("CELL 0 alone", x.cell(0), 1);
        due.is("not CELL 1", x.cell(1), 0);
    }

    // vector 0 to 9, shift 0 to 3, cost 0 to 7, alarm 0 to 100, purse 0 to 999
    private void settings() {
        String[] words = {"vector", "shift", "cost", "alarm", "purse"};
        int[] most = {9, 3, 7, 100, 999};
        int[] counts = {4, 5, 6, 7, 9};
        for (int k = 0; k < words.length; k++) {
            GuestView x = new GuestView();
            int at = words[k].length() + 1;
            for (int n : new int[] {0, most[k], 1}) {
                rightBench(x, words[k] + " " + n);
                due.is(words[k], x.count(counts[k]), n);
            }
            due.wrongBench(x, words[k] + " " + (most[k] + 1), at);
            due.wrongBench(x, words[k] + " 1000", at);
            due.wrongBench(x, words[k] + " -1", at);
            due.wrongBench(x, words[k], at - 1);
            due.wrongBench(x, words[k] + ";", at - 1);
            due.wrongBench(x, words[k] + " 1 1", at + 2);
            due.wrongBench(x, words[k] + " " + words[k], at);
            due.is(words[k] + " still", x.count(counts[k]), 1);
        }
    }

    // Numbers are of 1 to 3 digits; a number of more digits: wrong at its begin
    private void threeDigits() {
        GuestView x = Due.with("op rise");
        rightBench(x, "cost 2");
        rightBench(x, "cost 03");
        rightBench(x, "cost 004");
        due.is("three digits", x.count(6), 4);
        due.wrongBench(x, "cost 0005", 5);
        due.wrongBench(x, "cost 00000000005", 5);
        rightBench(x, "program 000 00 0;cells 003 02");
        due.wrongBench(x, "program 0 0000", 10);
        due.wrongBench(x, "cells 3 0000", 8);
        due.wrongBench(x, "purse 0999", 6);
        due.wrongBench(x, "purse 9999999999", 6);
        rightLaw(x, "cost 040 if 000 < 001", 1);
        due.wrongLaw(x, "cost 0040", 5);
        due.wrongLaw(x, "cost 1 if 0000 < 1", 10);
        due.wrongLaw(x, "cost 1 if 1 < 0002", 14);
        due.wrongLaw(x, "cost 1 if 1 + 4294967297 < 2", 14);
    }

    // between all there may be blanks (32), also ahead and behind
    private void blanks() {
        GuestView x = new GuestView();
        rightBench(x, "op add1add2add3");
        rightBench(x, "   op   guarded   skip   3   rise   ;   program   1   0   ;   cost   7   ");
        due.is("cost", x.count(6), 7);
        due.is("OPS of PROGRAM", x.count(3), 2);
        rightBench(x, "program1 0 1;cells1 2 3;vector4;shift2;cost5;alarm6;purse7");
        due.is("purse", x.count(9), 7);
        due.is("OPS of PROGRAM", x.count(3), 3);
        due.wrongBench(x, "opadd 1", 0);
        due.wrongBench(x, "op risedrop", 3);
        due.wrongBench(x, "op guardedrise", 3);
        due.wrongBench(x, "co st 1", 0);
        rightBench(x, "program 1 0");
        due.wrongBench(x, "program 10", 8);
        for (int sign : new int[] {0, 9, 10, 13, 31, 33, 127, 128, 160, 255}) {
            due.wrongBench(x, "cost" + (char) sign + "1", 4);
            due.wrongBench(x, (char) sign + "cost 1", 0);
            due.wrongBench(x, "cost 1" + (char) sign, 6);
            due.wrongLaw(x, "cost" + (char) sign + "1", 4);
            due.wrongLaw(x, "cost 1" + (char) sign, 6);
        }
        rightLaw(x, "  cost  1  if  (  not  op  +  1  <  2  or  guarded  )  ;  worth  2  ", 2);
        rightLaw(x, "cost1if(not op+1<2or guarded);worth2", 2);
        due.wrongLaw(x, "cost 1 ifguarded", 7);
        due.wrongLaw(x, "cost 1 if notguarded", 10);
        due.wrongLaw(x, "cost 1 if guardedor patched", 10);
    }

    // Words are as long as a to z go on
    private void lettersAndDigits() {
        GuestView x = Due.with("op rise");
        due.wrongBench(x, "`cost 1", 0);
        due.wrongBench(x, "{cost 1", 0);
        due.wrongBench(x, "cost`1", 4);
        due.wrongBench(x, "cost{1", 4);
        due.wrongBench(x, "costa 1", 0);
        due.wrongBench(x, "costz 1", 0);
        due.wrongBench(x, "cos 1", 0);
        due.wrongBench(x, "Cost 1", 0);
        due.wrongBench(x, "cosT 1", 0);
        due.wrongBench(x, "cost /", 5);
        due.wrongBench(x, "cost :", 5);
        due.wrongBench(x, "cost 1/", 6);
        due.wrongBench(x, "cost 1:", 6);
        due.wrongBench(x, "cost 1a", 6);
        due.wrongBench(x, "op riser", 3);
        due.wrongBench(x, "op ris", 3);
        due.wrongBench(x, "op guard rise", 3);
        due.wrongBench(x, "program 0:", 9);
        for (String word : "op micros control modal local timed uses".split(" ")) {
            rightLaw(x, "worth 1 if " + word + ">0", 1);
            due.wrongLaw(x, "worth 1 if " + word + "s>0", 11);
            due.wrongLaw(x, "worth 1 if " + word + " and guarded", 12 + word.length());
        }
        for (String word : "guarded patched sensitive".split(" ")) {
            rightLaw(x, "worth 1 if " + word, 1);
            due.wrongLaw(x, "worth 1 if " + word + "s", 11);
            due.wrongLaw(x, "worth 1 if " + word + ">0", 11 + word.length());
        }
    }

    // or the text's length, if more must come
    private void textsLength() {
        GuestView x = Due.with("op rise");
        String[] bench = {"op", "op guarded", "op add", "op rise save", "op rise;", "program 0;", "cells", "vector", "shift",
            "cost", "alarm", "purse"};
        for (String text : bench) {
            due.wrongBench(x, text, text.length());
            due.wrongBench(x, text + "   ", text.length() + 3);
            due.wrongBench(x, "  " + text + " ", text.length() + 3);
        }
        String[] law = {"cost", "blame", "worth", "cost 1;", "cost 1 if", "cost 1 if not", "cost 1 if (", "cost 1 if (guarded",
            "cost 1 if guarded and", "cost 1 if guarded or", "cost 1 if op", "cost 1 if 3", "cost 1 if op +", "cost 1 if op <",
            "cost 1 if op >", "cost 1 if op < 3 +", "cost 1 if (op < 3", "cost 1 if guarded;"};
        GuestView y = Due.with("op rise");
        for (String text : law) {
            due.wrongLaw(y, text, text.length());
            due.wrongLaw(y, text + "   ", text.length() + 3);
            due.wrongLaw(y, "  " + text + " ", text.length() + 3);
        }
    }

    // The first wrong byte: the begin of the FIRST thing that cannot stand there
    private void firstOfSeveral() {
        GuestView x = new GuestView();
        due.wrongBench(x, "cost 9;fly;alarm 101", 5);
        due.wrongBench(x, "cost 1;fly;alarm 101", 7);
        due.wrongBench(x, "cost 1;alarm 101;fly", 13);
        due.wrongBench(x, ";", 0);
        due.wrongBench(x, " ; cost 1", 1);
        due.wrongBench(x, "cost 1;;cost 1", 7);
        due.wrongBench(x, "cost 1,cost 1", 6);
        due.wrongBench(x, "cost 1 vector 1", 7);
        due.wrongBench(x, "5", 0);
        due.wrongLaw(x, "cost 41 if fly", 5);
        due.wrongLaw(x, "cost 1 if fly;tax", 10);
        due.wrongLaw(x, "cost 1;tax;cost 41", 7);
        due.wrongLaw(x, ";", 0);
        due.wrongLaw(x, "cost 1;;cost 1", 7);
        due.wrongLaw(x, "cost 1 worth 1", 7);
        due.wrongLaw(x, "vector 1", 0);
        due.wrongLaw(x, "if guarded", 0);
    }

    // Of a wrong text nothing stays
    private void nothingStays() {
        GuestView x = Due.with("op guarded drop;op who;program 0 1;cells 1 2 3;vector 1;shift 2;cost 3;alarm 4;purse 5");
        Due.law(x, "worth 6 if guarded;blame 1;cost 2");
        x.ticks(5);
        String before = Due.seen(x);
        due.wrongBench(x, "op rise;program 2 2 2;cells 3 3 3 3;vector 9;shift 0;cost 7;alarm 99;purse 999;", 79);
        due.is("all is as ahead of it", Due.seen(x), before);
        due.wrongLaw(x, "cost 40;blame 40;worth 40;worth 1 if op < ", 42);
        due.is("all is as ahead of it", Due.seen(x), before);
        due.is("TICKS can be UNDONE still", x.undo(), true);
        due.is("TICK", x.count(8), 0);
        due.is("OPS", x.count(0), 2);
    }

    // Behind a text that is right both guests BOOT; no guest BOOTS by THE LAW
    private void bootsBehindTexts() {
        GuestView x = Due.with("op add 1;program 0 0 0");
        x.ticks(2);
        due.wrongBench(x, "fly", 0);
        due.is("not behind a wrong one", x.guest(false, 0), 2);
        Due.law(x, "");
        due.is("not behind a law", x.guest(true, 0), 2);
        due.wrongLaw(x, "fly", 0);
        due.is("not behind a wrong law", x.guest(true, 1), 2);
        rightBench(x, "");
        due.is("behind the empty one", x.guest(false, 0), 0);
        due.is("behind the empty one", x.guest(true, 1), 0);
        due.is("TICK stays", x.count(8), 2);
    }

    // A text that is empty, or blanks alone, has no LINE
    private void noLines() {
        GuestView x = Due.with("op guarded drop");
        due.is("no LAW", x.count(2), NONE);
        rightLaw(x, "", 0);
        rightLaw(x, "worth 3", 1);
        due.is("WORTH", x.op(0, 10), 4);
        rightLaw(x, " ", 0);
        due.is("WORTH is 1", x.op(0, 10), 1);
        due.is("BLAME is 0", x.op(0, 9), 0);
        due.is("EMULATION is COST", x.op(0, 8), 1);
        rightLaw(x, " ".repeat(400), 0);
        rightBench(x, "");
        rightBench(x, " ");
        rightBench(x, " ".repeat(400));
        due.is("texts", x.count(1), 4);
    }

    // THE LAW, in place of the one before: LINE { ; LINE }, at most 12
    private void twelveLines() {
        GuestView x = Due.with("op rise");
        rightLaw(x, "worth 1;".repeat(11) + "worth 9", 12);
        due.is("all twelve", x.op(0, 10), 1 + 11 + 9);
        due.wrongLaw(x, "worth 1;".repeat(12) + "worth 1", 96);
        due.wrongLaw(x, "worth 1;".repeat(12) + " cost", 97);
        due.wrongLaw(x, "worth 1;".repeat(12), 96);
        due.wrongLaw(x, "worth 1;".repeat(12) + "  ", 98);
        due.wrongLaw(x, "worth 1;".repeat(12) + "tax", 96);
        due.is("twelve still", x.count(2), 12);
        due.is("twelve still", x.op(0, 10), 21);
        rightLaw(x, "worth 5", 1);
        due.is("one in place", x.op(0, 10), 6);
        rightLaw(x, "worth 5 if 1 < 0;worth 6 if 1 < 0", 2);
        due.is("none holds", x.op(0, 10), 1);
        rightLaw(x, "worth 5;worth 6", 2);
        due.is("without conditions in place", x.op(0, 10), 12);
    }

    // N 0 to 40
    private void amounts() {
        GuestView x = Due.with("op rise;cost 0");
        String[] words = {"cost", "blame", "worth"};
        for (int k = 0; k < 3; k++) {
            rightLaw(x, words[k] + " 0", 1);
            due.is(words[k], x.op(0, 8 + k), k == 2 ? 1 : 0);
            rightLaw(x, words[k] + " 40", 1);
            due.is(words[k], x.op(0, 8 + k), k == 2 ? 41 : 40);
            due.wrongLaw(x, words[k] + " 41", words[k].length() + 1);
            due.wrongLaw(x, words[k] + " 999", words[k].length() + 1);
            due.wrongLaw(x, words[k] + " -1", words[k].length() + 1);
            due.is(words[k] + " still", x.op(0, 8 + k), k == 2 ? 41 : 40);
        }
    }

    // PART: NUMBER, of 1 to 3 digits
    private void numbersInSums() {
        GuestView x = Due.with("op rise");
        rightLaw(x, "worth 1 if 999 > 998;worth 2 if 0 < 999;worth 4 if 999 + 999 > 999", 3);
        due.is("999", x.op(0, 10), 8);
        due.wrongLaw(x, "worth 1 if 1000 > 998", 11);
        due.wrongLaw(x, "worth 1 if 0 < 1000", 15);
        due.wrongLaw(x, "worth 1 if 0 < 1 + 1000", 19);
        rightLaw(x, "worth 1 if 0 < 0;worth 2 if op < 0;worth 4 if 0 > op", 3);
        due.is("0", x.op(0, 10), 1);
    }

    // ( and not within one another at most 6 deep: wrong at the ( or not that is a 7th one deep
    private void sixDeep() {
        GuestView x = Due.with("op rise");
        rightLaw(x, "worth 1 if " + "(".repeat(6) + "1>0" + ")".repeat(6), 1);
        due.is("six (", x.op(0, 10), 2);
        due.wrongLaw(x, "worth 1 if " + "(".repeat(7) + "1>0" + ")".repeat(7), 17);
        rightLaw(x, "worth 1 if " + "not ".repeat(6) + "1>0", 1);
        due.is("six not", x.op(0, 10), 2);
        rightLaw(x, "worth 1 if " + "not ".repeat(5) + "1>0", 1);
        due.is("five not", x.op(0, 10), 1);
        due.wrongLaw(x, "worth 1 if " + "not ".repeat(7) + "1>0", 35);
        rightLaw(x, "worth 1 if " + "not (".repeat(3) + "1>0" + ")".repeat(3), 1);
        due.is("three of each", x.op(0, 10), 1);
        due.wrongLaw(x, "worth 1 if " + "not (".repeat(3) + "not 1>0" + ")".repeat(3), 26);
        due.wrongLaw(x, "worth 1 if " + "not (".repeat(3) + "(1>0)" + ")".repeat(3), 26);
        due.wrongLaw(x, "worth 1 if " + "(not ".repeat(3) + "(guarded)" + ")".repeat(3), 26);
        due.wrongLaw(x, "worth 1 if " + "(not ".repeat(3) + "not guarded" + ")".repeat(3), 26);
        rightLaw(x, "worth 1 if " + "(not ".repeat(3) + "guarded" + " or not patched)".repeat(3), 1);
    }

    // within one another: what has ended counts no more
    private void depthEnds() {
        GuestView x = Due.with("op rise");
        String six = "(".repeat(6) + "1>0" + ")".repeat(6);
        rightLaw(x, "worth 1 if " + six + " and " + six + " or not " + "(".repeat(5) + "guarded" + ")".repeat(5) + " and not not guarded", 1);
        due.is("holds", x.op(0, 10), 2);
        rightLaw(x, "worth 1 if " + "(".repeat(5) + "(1>0) and (1>0) and not guarded" + ")".repeat(5), 1);
        due.is("holds", x.op(0, 10), 2);
        due.wrongLaw(x, "worth 1 if " + "(".repeat(5) + "(1>0) and ((1>0))" + ")".repeat(5), 27);
        due.wrongLaw(x, "worth 1 if " + "(".repeat(5) + "(1>0) and not not guarded" + ")".repeat(5), 30);
        rightLaw(x, "worth 1 if " + six + ";worth 2 if " + six, 2);
        due.is("each LINE anew", x.op(0, 10), 4);
        rightLaw(x, "worth 1 if " + "not ".repeat(6) + "guarded and " + "not ".repeat(6) + "guarded", 1);
        due.wrongLaw(x, "worth 1 if " + six + ")", 26);
    }

    // SUM < SUM | SUM > SUM: like ones are neither
    private void comparisons() {
        GuestView x = Due.with("op rise;op rise;op rise;program 1 1 2");
        rightLaw(x, "worth 1 if op < 1;worth 2 if op > 1;worth 4 if uses < 2;worth 8 if uses > 1;worth 16 if micros > 1;worth 32 if micros < 1", 6);
        due.is("OP 0", x.op(0, 10), 1 + 1 + 4);
        due.is("OP 1", x.op(1, 10), 1 + 8);
        due.is("OP 2", x.op(2, 10), 1 + 2 + 4);
        rightLaw(x, "worth 1 if op + 1 < 1 + op;worth 2 if op + 1 > 1 + op;worth 4 if op < op + 1;worth 8 if op + 1 > op", 4);
        due.is("like ones", x.op(2, 10), 1 + 4 + 8);
    }

    // control, modal, local, timed: 1 if it is so, else 0; uses: how often it stands in PROGRAM (to ten)
    private void partsOfOp() {
        GuestView x = Due.with("op drop;op who;op where;op time;op rise who time;op add 1");
        String[] words = {"control", "modal", "local", "timed"};
        for (int k = 0; k < 4; k++) {
            rightLaw(x, "worth 1 if " + words[k] + " > 0;worth 2 if " + words[k] + " > 1;worth 4 if 1 > " + words[k], 3);
            for (int op = 0; op < 6; op++) {
                due.is(words[k] + " of " + op, x.op(op, 10), x.op(op, 3 + k) == 1 ? 2 : 5);
            }
        }
        rightLaw(x, "worth 1 if control + modal + local + timed > 1;worth 2 if sensitive", 2);
        int[] worths = {3, 3, 3, 1, 4, 1};
        for (int op = 0; op < 6; op++) {
            due.is("all four of " + op, x.op(op, 10), worths[op]);
        }
        rightBench(x, "program 0 0 0 0 0 0 0 0 0 0");
        rightLaw(x, "worth 1 if uses > 9;worth 2 if uses > 10;worth 4 if uses < 1;cost 3 if op > 0", 4);
        for (int op = 0; op < 6; op++) {
            due.is("uses of " + op, x.op(op, 10), op == 0 ? 2 : 5);
            due.is("EMULATION of " + op, x.op(op, 8), op == 0 ? 1 : 4);
        }
    }

    // ALL { or ALL }, ATOM { and ATOM }, PART { + PART }: as many as the text holds
    private void longConditions() {
        GuestView x = Due.with("op rise");
        rightLaw(x, "worth 1 if 1" + "+1".repeat(190) + ">190", 1);
        due.is("191 PARTS", x.op(0, 10), 2);
        rightLaw(x, "worth 1 if 1" + "+1".repeat(190) + ">191", 1);
        due.is("191 PARTS", x.op(0, 10), 1);
        rightLaw(x, "worth 1 if 999" + "+999".repeat(95) + ">0", 1);
        due.is("96 large PARTS", x.op(0, 10), 2);
        rightLaw(x, "worth 1 if 1<0" + " or 1<0".repeat(53) + " or 0<1", 1);
        due.is("the last of 55", x.op(0, 10), 2);
        rightLaw(x, "worth 1 if 1<0" + " or 1<0".repeat(54), 1);
        due.is("none of 55", x.op(0, 10), 1);
        rightLaw(x, "worth 1 if 0<1" + " and 0<1".repeat(47) + " and 1<0", 1);
        due.is("all but the last of 49", x.op(0, 10), 1);
        rightLaw(x, "worth 1 if 0<1" + " and 0<1".repeat(47), 1);
        due.is("all of 48", x.op(0, 10), 2);
        rightLaw(x, "worth 1 if" + "(1<0 or 0<1 and".repeat(6) + " 3>1+1" + ")".repeat(6) + ";worth 2 if 1<0 or 0<1 and 1+1<3", 2);
        due.is("or and within six (", x.op(0, 10), 4);
    }

    // EMULATION: COST and the sum of all cost LINES; WORTH: 1 and the sum; the greatest there are
    private void mostOfLaw() {
        GuestView x = Due.with("op guarded drop;program 0;cost 7");
        rightLaw(x, "cost 40;".repeat(11) + "cost 40", 12);
        due.is("EMULATION", x.op(0, 8), 7 + 480);
        due.is("BLAME", x.op(0, 9), 0);
        due.is("WORTH", x.op(0, 10), 1);
        due.is("DEPTH", x.depth(1, 5), 1 + 5 * 487);
        due.is("TRAPS", x.ticks(1), 1);
        due.is("CLOCK goes round: 488 modulo 8", x.guest(true, 4), 0);
        rightLaw(x, "blame 40;".repeat(11) + "blame 40", 12);
        due.is("EMULATION", x.op(0, 8), 7);
        due.is("BLAME", x.op(0, 9), 480);
        rightLaw(x, "worth 40;".repeat(11) + "worth 40", 12);
        due.is("WORTH", x.op(0, 10), 481);
        x.boot();
        due.is("a PURSE of it", x.trial(1, false), 1 + 481);
    }

    // fault: of the latest text that was read; NONE without one, and ahead of any
    private void faultOfLatest() {
        GuestView x = new GuestView();
        due.is("ahead of any", x.fault(), NONE);
        due.wrongBench(x, "#", 0);
        due.is("told again", x.fault(), 0);
        due.wrongLaw(x, "cost 1 #", 7);
        Due.asked(x, 0, 0, 1);
        due.is("rows are no text", x.fault(), 7);
        due.throwing("rows that are wrong", ARGUMENT, () -> Due.asked(x, 0, 7, 1));
        due.is("rows are no text", x.fault(), 7);
        rightLaw(x, "", 0);
        due.wrongLaw(x, "cost", 4);
        rightBench(x, "");
        due.wrongBench(x, "cost 9", 5);
        rightLaw(x, "cost 9", 1);
    }

    // of each two bytes: what (0 to 6), how much (0 to 10); at most 40 bytes; none may be told
    private void rowsOnTape() {
        int[] twenty = new int[40];
        for (int at = 0; at < 40; at += 2) {
            twenty[at] = at == 38 ? 6 : 1;
        }
        twenty[39] = 10;
        int[] none = {7, 0, 6};
        for (int call = 0; call < 3; call++) {
            int c = call;
            GuestView x = Due.with("op add 1;op quiet;op guarded drop");
            due.is("none told", Due.asked(x, c), none[c]);
            due.is("20 rows", Due.asked(x, c, twenty), new int[] {3, 1, 6}[c]);
            due.is("how much 10", Due.asked(x, c, 6, 10, 6, 10), new int[] {2, 1, NONE}[c]);
            due.is("what 0 and 6, how much 0", Due.asked(x, c, 0, 0, 6, 0), new int[] {1, 0, NONE}[c]);
            String before = Due.seen(x);
            due.throwing("21 rows", ARGUMENT, () -> Due.asked(x, c, new int[42]));
            due.throwing("41 bytes", ARGUMENT, () -> Due.asked(x, c, new int[41]));
            due.throwing("400 bytes", ARGUMENT, () -> Due.asked(x, c, new int[400]));
            due.throwing("one byte", ARGUMENT, () -> Due.asked(x, c, 0));
            due.throwing("39 bytes", ARGUMENT, () -> Due.asked(x, c, new int[39]));
            due.throwing("what 7", ARGUMENT, () -> Due.asked(x, c, 7, 0));
            due.throwing("what 255", ARGUMENT, () -> Due.asked(x, c, 255, 0));
            due.throwing("how much 11", ARGUMENT, () -> Due.asked(x, c, 6, 11));
            due.throwing("how much 11 in the 2nd row", ARGUMENT, () -> Due.asked(x, c, 6, 1, 6, 11));
            due.throwing("how much 128", ARGUMENT, () -> Due.asked(x, c, 6, 128));
            due.is("the TAPE is used up", x.end(1), false);
            due.is("nothing has changed", Due.seen(x), before);
        }
    }

    // OPS of which all rows are so, but for one at most
    private void oneRowWrong() {
        // OP 0: 1 MICRO, not GUARDED, KIND 0; OP 1: 2 MICROS, GUARDED, CONTROL, KIND 3 (of rise alone).
        GuestView x = Due.with("op add 1;op guarded drop add 1");
        due.is("none wrong of OP 0", Due.asked(x, 0, 0, 1, 1, 0, 6, 0), 1);
        due.is("one wrong of OP 0", Due.asked(x, 0, 0, 2, 1, 0, 6, 0), 1);
        due.is("two wrong of OP 0, one of OP 1", Due.asked(x, 0, 0, 2, 1, 1, 6, 0), 2);
        due.is("two wrong of both", Due.asked(x, 0, 0, 3, 1, 1, 1, 0, 6, 10), 0);
        due.is("one row, wrong of both", Due.asked(x, 0, 6, 10), 3);
        due.is("one row told twice is wrong twice", Due.asked(x, 0, 6, 10, 6, 10), 0);
        due.is("LIKELY, none wrong", Due.asked(x, 1, 0, 2, 1, 1, 6, 4), 1);
        due.is("LIKELY, one wrong of both: the least", Due.asked(x, 1, 6, 10), 0);
        due.is("LIKELY, two wrong of both", Due.asked(x, 1, 6, 10, 6, 10), NONE);
        due.is("LIKELY, two wrong of OP 0, one of OP 1", Due.asked(x, 1, 0, 2, 1, 1, 6, 0), 1);
    }

    // ASK: none with fewer than two; of several the least
    private void fewerThanTwo() {
        due.is("no OPS", Due.asked(new GuestView(), 2), NONE);
        due.is("one OP", Due.asked(Due.with("op rise"), 2), NONE);
        GuestView x = Due.with("op rise;op drop");
        due.is("two", Due.asked(x, 2), 6);
        due.is("one of two fits", Due.asked(x, 2, 6, 3, 6, 3), NONE);
        due.is("none fits", Due.asked(x, 2, 6, 10, 6, 10), NONE);
        due.is("eight alike: each what is as good", Due.asked(Due.with("op rise" + ";op rise".repeat(7)), 2), 0);
        due.is("a KIND of its own, 10", Due.asked(Due.with("op quiet;op skip 1;op quiet;op quiet"), 2), 6);
        due.is("a KIND of both, 10", Due.asked(Due.with("op quiet;op quiet add 1"), 2), 0);
        due.is("LOCAL parts, as KIND does", Due.asked(Due.with("op move load 1;op move load 1;op add 1 add 1;op add 1 add 1"), 2), 2);
        due.is("TIMED alone parts", Due.asked(Due.with("op add 1 time;op add 1 add 1"), 2), 5);
        due.is("MODAL alone parts", Due.asked(Due.with("op add 1 who;op add 1 add 1"), 2), 3);
        due.is("LOCAL alone parts", Due.asked(Due.with("op add 1 where;op add 1 add 1"), 2), 4);
        due.is("MICROS part three by three", Due.asked(Due.with("op add 1;op add 1 add 1;op add 1 add 1 add 1"), 2), 0);
    }
}
