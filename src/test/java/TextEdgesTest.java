/** Promises 11 to 14: a test of its own for each sentence that names an edge. Rows: see Script. */
public final class TextEdgesTest {
    private static final Checks CHECKS = new Checks();
    // As many things as a text has room for, but for the last one.
    private static final String NINETEEN = "r1;".repeat(19);

    public static void main(String[] arguments) {
        type();
        clearText();
        thingsOfText();
        numbers();
        endsOfText();
        fullText();
        oneAct();
        stops();
        stopped();
        CHECKS.end();
    }

    private static void type() {
        CHECKS.script("promise 11: any character, the first one and the last one",
                "type(0) = 1", "type(65535) = 2", "type(' ') = 3", "type(';') = 4", "type(255) = 5",
                "type(256) = 6", "count(16) = 6");
        CHECKS.script("promise 11: at most 60 characters: 59, 60 and one more",
                "59 x type('r')", "count(16) = 59", "type('r') = 60", "type('r') = FULL",
                "type(0) = FULL", "type(65535) = FULL", "count(16) = 60");
        CHECKS.script("promise 11: the text stays as it was when it is FULL",
                "text t10=11;t20=22;t30=33;t40=44;t50=55;t60=66;r1;r1;r1;r1;t1=1;",
                "type('r') = 60", "perform() = -160", "type('1') = FULL", "perform() = -160");
        CHECKS.script("promise 11: there is room again when the text was emptied",
                "60 x type('r')", "type('r') = FULL", "clearText() = 60", "type('r') = 1",
                "type('9') = 2", "perform() = 1", "plot(0, 1) = 9");
        CHECKS.script("promise 11: typed behind the text, not ahead of it",
                "type('r') = 1", "perform() = -101", "type('2') = 2", "perform() = 1",
                "type(';') = 3", "perform() = -103");
        CHECKS.script("promise 11: no act: it records nothing and undo() keeps the text",
                "grow(0, 5)", "type('r') = 1", "count(15) = 1", "undo() = 0", "count(16) = 1");
    }

    private static void clearText() {
        CHECKS.script("promise 12: the empty text has the length 0",
                "clearText() = 0", "clearText() = 0", "count(16) = 0");
        CHECKS.script("promise 12: the length that it had: 1 and 60",
                "type('x') = 1", "clearText() = 1", "60 x type('x')", "clearText() = 60",
                "count(16) = 0", "clearText() = 0");
        CHECKS.script("promise 12: the text is empty then",
                "text r1", "clearText() = 2", "perform() = -100", "type('1') = 1",
                "perform() = -100");
        CHECKS.script("promise 12: no act: it records nothing and undo() brings no text back",
                "grow(0, 5)", "text r1", "clearText() = 2", "count(15) = 1", "undo() = 0",
                "count(16) = 0");
    }

    private static void thingsOfText() {
        CHECKS.script("promise 13: one thing or more with \";\" between two",
                "text r1", "perform() = 1", "text r1;r1", "perform() = 2", "text ;",
                "perform() = -100", "text ;r1", "perform() = -100", "text r1;", "perform() = -103",
                "text r1;;r1", "perform() = -103", "text r1r1", "perform() = -102", "text r1,r1",
                "perform() = -102", "text r1 ;r1", "perform() = -102", "text r1; r1",
                "perform() = -103");
        CHECKS.script("promise 13: \"t\", a plot, \"=\" and a worth (0 to 99): ends and beyond",
                "text t63=99", "perform() = 1", "plot(63, 0) = 99", "text t63=0", "perform() = 1",
                "plot(63, 0) = 0", "text t0=1", "perform() = 1", "plot(0, 0) = 1", "text t64=1",
                "perform() = -102", "text t0=100", "perform() = -105", "text t-1=0",
                "perform() = -101", "text t0=-1", "perform() = -103");
        CHECKS.script("promise 13: the signs of \"t\"",
                "text T5=5", "perform() = -100", "text t=5", "perform() = -101", "text t5:5",
                "perform() = -102", "text t5>5", "perform() = -102", "text t5==5",
                "perform() = -103", "text t5=5=", "perform() = -104");
        CHECKS.script("promise 13: \"r\" and a number (1 to 9): both ends and just outside",
                "text r1", "perform() = 1", "plot(0, 1) = 1", "text r0", "perform() = -101",
                "text r10", "perform() = -102", "text r9", "perform() = 1", "plot(0, 1) = 9");
        CHECKS.script("promise 13: \"h\", a row, \":\" and a column: both ends and just outside",
                "text h7:7", "perform() = 1", "row(7, 0) = 7", "text h0:0", "perform() = 1",
                "row(0, 0) = 0", "text h8:0", "perform() = -101", "text h0:8", "perform() = -103",
                "text h1=1", "perform() = -102", "text h1>1", "perform() = -102", "text h:1",
                "perform() = -101");
        CHECKS.script("promise 13: \"g\", a crew, \">\" and a plot: both ends and just outside",
                "set(0, 30)", "endDays(1)", "text g2>63", "perform() = 1", "crew(2, 0) = 63",
                "text g0>1;g0>0", "perform() = 2", "crew(0, 1) = 28", "text g3>0",
                "perform() = -101", "text g2>64", "perform() = -104", "text g1=5",
                "perform() = -102", "text g1:5", "perform() = -102", "text g>5",
                "perform() = -101");
        CHECKS.script("promise 13: \"f\" and a crew: both ends and just outside",
                "grow(0..2, 4)", "text f0", "perform() = 1", "crew(0, 2) = 4", "text f2",
                "perform() = 1", "crew(2, 2) = 4", "text f3", "perform() = -101", "text f-1",
                "perform() = -101", "text f0>1", "perform() = -102", "crew(1, 2) = 0");
        CHECKS.script("promise 13: \".\" and days (1 to 99): both ends and just outside",
                "text .1", "perform() = 1", "count(0) = 1", "text .99", "perform() = 1",
                "count(0) = 100", "text .0", "perform() = -101", "text .100", "perform() = -103",
                "text ..1", "perform() = -101", "text .9.9", "perform() = -102");
        CHECKS.script("promise 13: no other sign begins a thing",
                "text x1", "perform() = -100", "text 1", "perform() = -100", "text  r1",
                "perform() = -100", "text =", "perform() = -100", "text r1;x", "perform() = -103",
                "text R1", "perform() = -100", "text s", "perform() = -100", "text u",
                "perform() = -100", "text e", "perform() = -100", "text i", "perform() = -100",
                "text /", "perform() = -100", "text -", "perform() = -100");
        CHECKS.script("promise 13: a digit is one from 0 to 9 alone, not the signs beside them",
                "text r/", "perform() = -101", "text r:", "perform() = -101", "text t1/",
                "perform() = -102", "text t1:", "perform() = -102", "text r", "type(1635)",
                "perform() = -101", "text r", "type(65297)", "perform() = -101", "text r",
                "type(305)", "perform() = -101", "text .1", "type(0)", "perform() = -102");
    }

    private static void numbers() {
        CHECKS.script("promise 13: a zero in front is not allowed ahead of a digit",
                "text t00=1", "perform() = -102", "text t07=1", "perform() = -102", "text t5=00",
                "perform() = -104", "text t5=05", "perform() = -104", "text g0>00",
                "perform() = -104", "text g0>07", "perform() = -104", "text h00:1",
                "perform() = -102", "text h0:01", "perform() = -104", "text f00",
                "perform() = -102", "text g01>1", "perform() = -102");
        CHECKS.script("promise 13: a zero in front of a number that is not 0 to begin with",
                "text r01", "perform() = -101", "text .01", "perform() = -101", "text .00",
                "perform() = -101", "text r00", "perform() = -101");
        CHECKS.script("promise 13: the single digit 0 is a number",
                "text t0=0;g0>0;h0:0;f0", "perform() = 4", "row(0, 0) = 0");
        CHECKS.script("promise 13: a zero behind another digit is allowed",
                "text t10=10;t60=90;.10;.90", "perform() = 4", "plot(10, 0) = 10",
                "plot(60, 0) = 90", "count(0) = 100", "text g0>10;g1>20", "perform() = 2",
                "crew(0, 0) = 10", "crew(1, 0) = 20");
        CHECKS.script("promise 13: a digit by which a plot would be greater than 63",
                "text t63=1", "perform() = 1", "text t64=1", "perform() = -102", "text t69=1",
                "perform() = -102", "text t70=1", "perform() = -102", "text t99=1",
                "perform() = -102", "text t100=1", "perform() = -103", "text t630=1",
                "perform() = -103", "text t59=1", "perform() = 1", "plot(59, 0) = 1", "text t9=1",
                "perform() = 1", "plot(9, 0) = 1");
        CHECKS.script("promise 13: the same of the plot to which a crew goes",
                "text g2>64", "perform() = -104", "text g2>70", "perform() = -104", "text g2>630",
                "perform() = -105", "text g2>100", "perform() = -105", "text g2>10",
                "perform() = 1", "crew(2, 0) = 10");
        CHECKS.script("promise 13: a digit by which a worth would be greater than 99",
                "text t1=990", "perform() = -105", "text t1=100", "perform() = -105", "text t1=99",
                "perform() = 1", "plot(1, 0) = 99", "text t1=98", "perform() = 1",
                "plot(1, 0) = 98");
        CHECKS.script("promise 13: a digit by which days would be more than 99",
                "text .990", "perform() = -103", "text .100", "perform() = -103", "text .98",
                "perform() = 1", "count(0) = 98", "text .99", "perform() = 1", "count(0) = 197");
        CHECKS.script("promise 13: a second digit of rain, a crew, a row or a column is too great",
                "text r11", "perform() = -102", "text r90", "perform() = -102", "text f10",
                "perform() = -102", "text g10>1", "perform() = -102", "text h10:1",
                "perform() = -102", "text h1:10", "perform() = -104", "text h7:77",
                "perform() = -104");
    }

    private static void endsOfText() {
        CHECKS.script("promise 13: the empty text ends too early",
                "perform() = -100", "text ", "perform() = -100", "stopped(0) = NONE");
        CHECKS.script("promise 13: a text that ends in a thing has the fault at its length",
                "text t", "perform() = -101", "text t6", "perform() = -102", "text t63",
                "perform() = -103", "text t63=", "perform() = -104", "text r", "perform() = -101",
                "text h", "perform() = -101", "text h7", "perform() = -102", "text h7:",
                "perform() = -103", "text g", "perform() = -101", "text g2", "perform() = -102",
                "text g2>", "perform() = -103", "text f", "perform() = -101", "text .",
                "perform() = -101");
        CHECKS.script("promise 13: a text that ends behind \";\" has the fault at its length",
                "text t63=9;", "perform() = -106", "text t63=99;", "perform() = -107", "text f2;",
                "perform() = -103", "text .9;", "perform() = -103", "text .99;",
                "perform() = -104");
        CHECKS.script("promise 13: a number of one digit where two have room ends in time",
                "text t6=9", "perform() = 1", "plot(6, 0) = 9", "text .9", "perform() = 1",
                "count(0) = 9", "text g2>3", "perform() = 1", "crew(2, 0) = 3");
        CHECKS.script("promise 13: the fault is the first character that is not allowed",
                "text t5=5;h0:0;u;v", "perform() = -110", "text r1;r0;r0", "perform() = -104",
                "text g0>63;x", "perform() = -106", "text t64=100", "perform() = -102");
    }

    private static void fullText() {
        CHECKS.script("promise 13: a full text without a fault",
                "text t10=11;f0;f0;f0;f0;f0;f0;f0;f0;f0;f0;f0;f0;f0;f0;f0;f0;f0;.1",
                "count(16) = 60", "perform() = 19", "plot(10, 0) = 11", "count(0) = 1");
        CHECKS.script("promise 13: as many things as a text has room for, 20",
                "text " + NINETEEN + "r1", "count(16) = 59", "perform() = 20", "plot(0, 1) = 9",
                "text " + NINETEEN + ".99", "count(16) = 60", "perform() = 20", "count(0) = 99");
        CHECKS.script("promise 13: a full text that ends too early",
                "text " + NINETEEN + "r1;", "count(16) = 60", "perform() = -160",
                "text " + NINETEEN + "h7:", "count(16) = 60", "perform() = -160");
        CHECKS.script("promise 13: a full text with the fault at its last character",
                "text " + NINETEEN + "r1x", "count(16) = 60", "perform() = -159",
                "text " + NINETEEN + "r10", "perform() = -159");
        CHECKS.script("promise 13: a full text with the fault at its first character",
                "60 x type('x')", "perform() = -100");
    }

    private static void oneAct() {
        CHECKS.script("promise 13: one act, however many things there are",
                "text t9=45;r4;h0:3;g1>9;f1;.2", "perform() = 6", "count(15) = 1",
                "crew(1, 2) = 45", "undo() = 0", "count(1) = 0", "count(7) = 0", "count(0) = 0",
                "count(6) = 0", "plot(0, 1) = 0", "crew(1, 0) = 1", "crew(1, 1) = 8",
                "plot(9, 6) = 0");
        CHECKS.script("promise 13: the text stays, and can be performed again",
                "text .2;r3", "perform() = 2", "count(16) = 5", "perform() = 2", "count(0) = 4",
                "plot(0, 1) = 4", "undo() = 1", "count(16) = 5", "perform() = 2", "count(0) = 4");
        CHECKS.script("promise 13: one after the other: a day first gives new steps",
                "text g0>36;g0>63", "perform() = NOT_POSSIBLE", "text g0>36;.1;g0>63",
                "perform() = 3", "crew(0, 1) = 2", "count(0) = 1");
        CHECKS.script("promise 13: one after the other: rain behind a way does not make it dearer",
                "text r9;g0>3", "perform() = NOT_POSSIBLE", "text g0>3;r9", "perform() = 2",
                "crew(0, 1) = 5");
        CHECKS.script("promise 13: what would return NONE does not stop it",
                "text t5=0;g0>0;f0;r1", "perform() = 4", "plot(0, 1) = 1", "count(15) = 1");
        CHECKS.script("promise 13: it is an act also if all of it would return NONE",
                "text f0", "perform() = 1", "count(15) = 1", "text t5=0;g0>0;f0", "perform() = 3",
                "count(15) = 2", "undo() = 1");
        CHECKS.script("promise 13: it drops the oldest state of a full history, once",
                "grow(0, 1..4)", "count(15) = 4", "text t0=5;t0=6;t0=7", "perform() = 3",
                "count(15) = 4", "undo() = 3", "plot(0, 0) = 4", "undo() = 2", "undo() = 1",
                "undo() = 0", "plot(0, 0) = 1", "undo() = NONE");
    }

    private static void stops() {
        CHECKS.script("promise 13: all of it, or nothing: each kind of thing is taken back",
                "grow(0, 9)", "keep()", "text t5=5;r3;h0:0;.2;g1>3;f0;h7:7;h4:3;.1",
                "perform() = NOT_POSSIBLE", "plot(5, 0) = 0", "plot(0, 1) = 0", "count(6) = 0",
                "count(0) = 0", "crew(1, 0) = 1", "plot(0, 0) = 9", "count(7) = 0", "count(11) = 0",
                "count(15) = 1", "stopped(0) = 7", "stopped(1) = NOT_POSSIBLE");
        CHECKS.script("promise 13: what stands behind the stop is not done",
                "text g0>63;r5;.1", "perform() = NOT_POSSIBLE", "plot(0, 1) = 0", "count(0) = 0",
                "stopped(0) = 0");
        CHECKS.script("promise 13: stopped by days beyond 9999, not by the day 9999",
                "100 x endDays(99)", "endDays(97) = 9997", "text .1;.2", "perform() = NOT_POSSIBLE",
                "stopped(0) = 1", "stopped(1) = FULL", "count(0) = 9997", "text .1;.1",
                "perform() = 2", "count(0) = 9999", "text .1", "perform() = NOT_POSSIBLE",
                "stopped(0) = 0");
        CHECKS.script("promise 13: stopped by a way that is too long by one step",
                "text g0>36", "perform() = 1", "undo()", "text g0>37", "perform() = NOT_POSSIBLE",
                "stopped(1) = NOT_POSSIBLE");
        CHECKS.script("promise 13: stopped by felling with one step too few, also without worth",
                "text g0>5;f0", "perform() = 2", "undo()", "text g0>6;f0",
                "perform() = NOT_POSSIBLE", "stopped(0) = 1", "stopped(1) = NOT_POSSIBLE");
        CHECKS.script("promise 13: stopped by a second hint for a row",
                "text h3:3;h3:3", "perform() = NOT_POSSIBLE", "stopped(0) = 1",
                "stopped(1) = NOT_POSSIBLE", "text h3:3;h4:3", "perform() = 2");
        CHECKS.script("promise 13: stopped by a hint that would leave no path",
                "text h0:0;h1:2", "perform() = NOT_POSSIBLE", "stopped(0) = 1", "text h0:0;h7:7",
                "perform() = 2", "count(5) = 1", "text h3:2", "perform() = NOT_POSSIBLE",
                "stopped(0) = 0");
        CHECKS.script("promise 13: a fault comes ahead of a stop",
                "text g0>63;x", "perform() = -106", "stopped(0) = NONE", "text g0>63;",
                "perform() = -106", "stopped(1) = NONE");
    }

    private static void stopped() {
        CHECKS.script("promise 14: what, 0 and 1, and just outside",
                "text r1;g0>63", "perform() = NOT_POSSIBLE", "stopped(-1) = BAD_VALUE",
                "stopped(0) = 1", "stopped(1) = NOT_POSSIBLE", "stopped(2) = BAD_VALUE",
                "stopped(least) = BAD_VALUE", "stopped(greatest) = BAD_VALUE");
        CHECKS.script("promise 14: NONE if nothing was stopped yet",
                "stopped(0) = NONE", "stopped(1) = NONE", "text r1", "perform() = 1",
                "stopped(0) = NONE", "stopped(1) = NONE");
        CHECKS.script("promise 14: BAD_VALUE comes ahead of NONE",
                "stopped(-1) = BAD_VALUE", "stopped(2) = BAD_VALUE",
                "stopped(greatest) = BAD_VALUE");
        CHECKS.script("promise 14: the number in the text, from 0 to that of the last of 20",
                "text g0>63", "perform() = NOT_POSSIBLE", "stopped(0) = 0", "go(0, 6) = 2",
                "text " + NINETEEN + "f0", "perform() = NOT_POSSIBLE", "stopped(0) = 19");
        CHECKS.script("promise 14: things that would return NONE are counted in the number",
                "text f0;t5=0;g0>63", "perform() = NOT_POSSIBLE", "stopped(0) = 2");
        CHECKS.script("promise 14: the latest stop, not the first one",
                "101 x endDays(99)", "text r1;r1;.1", "perform() = NOT_POSSIBLE", "stopped(0) = 2",
                "stopped(1) = FULL", "text g0>63", "perform() = NOT_POSSIBLE", "stopped(0) = 0",
                "stopped(1) = NOT_POSSIBLE");
        CHECKS.script("promise 14: it stays when a later text is performed",
                "text r1;g0>63", "perform() = NOT_POSSIBLE", "text r1", "perform() = 1",
                "stopped(0) = 1", "stopped(1) = NOT_POSSIBLE");
        CHECKS.script("promise 14: it stays when a later text has a fault",
                "text r1;g0>63", "perform() = NOT_POSSIBLE", "text r1;r1;r1;x", "perform() = -109",
                "stopped(0) = 1", "stopped(1) = NOT_POSSIBLE");
        CHECKS.script("promise 14: no part of a state: undo(), restore() and keep() leave it",
                "grow(0, 5)", "keep()", "text r1;g0>63", "perform() = NOT_POSSIBLE", "undo() = 0",
                "stopped(0) = 1", "restore()", "stopped(0) = 1", "keep()", "clearText()",
                "stopped(1) = NOT_POSSIBLE");
    }
}
