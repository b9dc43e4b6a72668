/** Promises 9 to 11: join, round, over. */
final class DrawingBounds {
    private DrawingBounds() {
    }

    static void all(Sentences s) {
        join(s);
        joinRefused(s);
        ways(s);
        roundTellsOneWay(s);
        roundNoWay(s);
        roundSeveral(s);
        roundRefused(s);
        over(s);
    }

    private static void join(Sentences s) {
        s.says(9, "II. FACES 0 .. 11 of a DRAWING: a MEASURE may lead from a FACE to another one "
                + "(none does at first).");
        FitBench x = new FitBench();
        for (int m = 0; m < 12; m++) {
            s.due("at first: of(" + m + ", 6)", x.of(m, 6), -1);
            s.due("at first: of(" + m + ", 7)", x.of(m, 7), -1);
            s.yes("join(" + m + ", ..)", x.join(m, m, 11 - m));
        }
        for (int m = 0; m < 12; m++) {
            s.due("of(" + m + ", 6)", x.of(m, 6), m);
            s.due("of(" + m + ", 7)", x.of(m, 7), 11 - m);
        }
        s.says(9, "A MEASURE leads from a FACE to another one");
        s.yes("others in their place", x.join(3, 5, 4));
        s.due("of(3, 6)", x.of(3, 6), 5);
        s.due("of(3, 7)", x.of(3, 7), 4);
        s.says(9, "(both NONE: no more): true;");
        s.yes("no more", x.join(3, -1, -1));
        s.due("of(3, 6)", x.of(3, 6), -1);
        s.due("of(3, 7)", x.of(3, 7), -1);
        s.yes("no more, again", x.join(3, -1, -1));
        s.due("the others stay", x.of(4, 6), 4);
        FitBench y = new FitBench();
        y.join(0, 0, 1);
        y.join(0, -1, -1);
        s.due("no WAY any more", y.round(0, 0, 1), 0);
    }

    private static void joinRefused(Sentences s) {
        s.says(9, "false when there are none such,");
        FitBench x = new FitBench();
        x.join(0, 1, 2);
        for (int m : Sentences.beyond(0, 11)) {
            s.no("m " + m, x.join(m, 0, 1));
            s.no("m " + m + ", no more", x.join(m, -1, -1));
        }
        for (int face : Sentences.beyond(0, 11)) {
            s.no("from " + face, x.join(0, face, 1));
            s.no("to " + face, x.join(0, 1, face));
            if (face != -1) {
                s.no("from NONE to " + face, x.join(0, -1, face));
                s.no("from " + face + " to NONE", x.join(0, face, -1));
            }
        }
        s.says(9, "or they are the same.");
        for (int face = 0; face < 12; face++) {
            s.no("both " + face, x.join(0, face, face));
        }
        s.no("both -2", x.join(0, -2, -2));
        s.no("both 12", x.join(0, 12, 12));
        s.due("as it was: from", x.of(0, 6), 1);
        s.due("as it was: to", x.of(0, 7), 2);
        s.changesNothing("refused join", y -> {
            for (int m = -1; m <= 12; m++) {
                y.join(m, 5, 5);
                y.join(m, -1, 5);
                y.join(m, 5, -1);
                y.join(m, 12, 5);
                y.join(m, 5, 12);
            }
        });
    }

    private static void ways(Sentences s) {
        s.says(10, "A WAY goes from FACE to FACE by MEASURES, along or against,");
        FitBench x = new FitBench();
        x.join(0, 0, 1);
        x.join(1, 2, 1);
        s.due("along, then against", x.round(0, 0, 2), 2);
        s.due("along", x.chain(0, 0), 1);
        s.due("against", x.chain(0, 1), -1);
        s.due("from the other end", x.round(0, 2, 0), 2);
        s.due("against", x.chain(0, 0), -1);
        s.due("along", x.chain(0, 1), 1);
        s.says(10, "none twice, no FACE twice.");
        FitBench spur = new FitBench();
        spur.join(0, 0, 1);
        spur.join(1, 1, 2);
        spur.join(2, 1, 2);
        s.due("there and back by others would meet a FACE twice", spur.round(0, 0, 1), 1);
        s.due("chain(0, 0)", spur.chain(0, 0), 1);
        s.due("chain(0, 1)", spur.chain(0, 1), 0);
        FitBench ring = new FitBench();
        ring.join(0, 0, 1);
        ring.join(1, 0, 2);
        ring.join(2, 2, 3);
        ring.join(3, 3, 0);
        s.due("a ring through the first FACE", ring.round(0, 0, 1), 1);
        s.due("a ring through the last FACE", ring.round(0, 1, 0), 1);
        ring.join(4, 1, 4);
        s.due("a ring through no FACE of the WAY but the first", ring.round(0, 0, 4), 2);
        s.due("a ring through no FACE of the WAY but the last", ring.round(0, 4, 0), 2);
    }

    private static void roundTellsOneWay(Sentences s) {
        s.says(10, "CHAIN c has as SHARES what the one WAY from a FACE to another one tells: "
                + "1 along, -1 against, 0 for all others: how many MEASURES it has;");
        FitBench x = new FitBench();
        for (int m = 0; m < 12; m++) {
            x.share(5, m, 3);
            x.share(4, m, 2);
        }
        x.ends(5, -7, 8);
        for (int m = 0; m < 11; m++) {
            x.join(m, m % 2 == 0 ? m : m + 1, m % 2 == 0 ? m + 1 : m);
        }
        s.due("all FACES", x.round(5, 0, 11), 11);
        for (int m = 0; m < 12; m++) {
            s.due("chain(5, " + m + ")", x.chain(5, m), m == 11 ? 0 : m % 2 == 0 ? 1 : -1);
            s.due("another CHAIN stays", x.chain(4, m), 2);
        }
        s.due("its LOW stays", x.chain(5, 12), -7);
        s.due("its HIGH stays", x.chain(5, 13), 8);
        s.due("one MEASURE", x.round(5, 7, 6), 1);
        for (int m = 0; m < 12; m++) {
            s.due("chain(5, " + m + ")", x.chain(5, m), m == 6 ? -1 : 0);
        }
        FitBench dead = new FitBench();
        dead.join(0, 0, 7);
        dead.join(1, 7, 8);
        dead.join(2, 9, 0);
        dead.join(3, 0, 1);
        dead.join(4, 1, 6);
        s.due("past dead ends", dead.round(0, 0, 1), 1);
        for (int m = 0; m < 12; m++) {
            s.due("chain(0, " + m + ")", dead.chain(0, m), m == 3 ? 1 : 0);
        }
        FitBench y = new FitBench();
        y.join(11, 11, 0);
        s.due("by the last MEASURE", y.round(0, 11, 0), 1);
        s.due("chain(0, 11)", y.chain(0, 11), 1);
    }

    private static void roundNoWay(Sentences s) {
        s.says(10, "0: there is no WAY,");
        FitBench x = new FitBench();
        x.share(0, 5, 2);
        s.due("nothing is joined", x.round(0, 0, 11), 0);
        x.join(0, 0, 1);
        x.join(1, 2, 3);
        s.due("two pieces", x.round(0, 0, 3), 0);
        s.due("a FACE alone", x.round(0, 0, 4), 0);
        s.due("the CHAIN stays", x.chain(0, 5), 2);
        s.due("the CHAIN stays", x.chain(0, 0), 0);
        x.join(2, 1, 0);
        s.due("no WAY, though there is a ring", x.round(0, 0, 3), 0);
    }

    private static void roundSeveral(Sentences s) {
        s.says(10, "-2: more than one (the CHAIN stays then);");
        FitBench x = new FitBench();
        x.share(0, 5, 2);
        x.join(0, 0, 1);
        x.join(11, 1, 0);
        s.due("two side by side", x.round(0, 0, 1), -2);
        for (int m = 0; m < 12; m++) {
            s.due("chain(0, " + m + ")", x.chain(0, m), m == 5 ? 2 : 0);
        }
        x.join(2, 1, 2);
        s.due("two, then one", x.round(0, 0, 2), -2);
        s.due("one, then two", x.round(0, 2, 0), -2);
        x.join(11, 2, 0);
        s.due("a ring of three: 0, 1", x.round(0, 0, 1), -2);
        s.due("a ring of three: 1, 2", x.round(0, 1, 2), -2);
        x.join(11, -1, -1);
        s.due("one WAY is left", x.round(0, 0, 2), 2);
        FitBench many = new FitBench();
        for (int m = 0; m < 12; m++) {
            many.join(m, m / 3, m / 3 + 1);
        }
        s.due("81 WAYS", many.round(0, 0, 4), -2);
        FitBench ring = new FitBench();
        for (int m = 0; m < 12; m++) {
            ring.join(m, m, (m + 1) % 12);
        }
        s.due("a ring of all FACES", ring.round(0, 0, 11), -2);
        s.due("chain(0, 0)", ring.chain(0, 0), 0);
    }

    private static void roundRefused(Sentences s) {
        s.says(10, "NONE: no such CHAIN, FACES, or they are the same.");
        FitBench x = new FitBench();
        x.join(0, 0, 1);
        for (int c : Sentences.beyond(0, 5)) {
            s.due("c " + c, x.round(c, 0, 1), -1);
        }
        for (int face : Sentences.beyond(0, 11)) {
            s.due("from " + face, x.round(0, face, 1), -1);
            s.due("to " + face, x.round(0, 0, face), -1);
            s.due("both " + face, x.round(0, face, face), -1);
        }
        for (int face = 0; face < 12; face++) {
            s.due("both " + face, x.round(0, face, face), -1);
        }
        s.due("the CHAIN stays", x.chain(0, 14), 0);
        s.changesNothing("refused round", y -> {
            for (int face = 0; face < 12; face++) {
                y.round(0, face, face);
                y.round(-1, face, 0);
                y.round(6, face, 0);
                y.round(0, face, 12);
                y.round(0, -1, face);
            }
            y.round(0, 0, 5);
            y.round(0, 0, 10);
        });
    }

    private static void over(Sentences s) {
        s.says(11, "How many MEASURES could be left out of the DRAWING so that the same FACES are joined by WAYS, "
                + "but by one each.");
        FitBench x = new FitBench();
        s.due("nothing is joined", x.over(), 0);
        for (int m = 0; m < 11; m++) {
            x.join(m, m, m + 1);
            s.due("a line of " + (m + 1), x.over(), 0);
        }
        x.join(11, 0, 11);
        s.due("a ring of all", x.over(), 1);
        x.join(5, -1, -1);
        s.due("open again", x.over(), 0);
        FitBench full = new FitBench();
        for (int m = 0; m < 12; m++) {
            full.join(m, m % 2 == 0 ? 10 : 11, m % 2 == 0 ? 11 : 10);
            s.due((m + 1) + " between two", full.over(), m);
        }
        FitBench pieces = new FitBench();
        for (int m = 0; m < 12; m++) {
            int first = m / 3 * 3;
            pieces.join(m, m, m % 3 == 2 ? first : m + 1);
        }
        s.due("four rings of three", pieces.over(), 4);
        pieces.join(2, 2, 3);
        s.due("one opened, and joined to the next one", pieces.over(), 3);
        FitBench all = new FitBench();
        int m = 0;
        for (int a = 0; a < 5; a++) {
            for (int b = a + 1; b < 5; b++) {
                all.join(m, a, b);
                m++;
            }
        }
        s.due("each of five to each: 10 less 4", all.over(), 6);
    }
}
