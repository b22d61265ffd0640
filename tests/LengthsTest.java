/** Promises 23 to 28: lengths. */
final class LengthsTest {
    /** In twelfths of the ell: the ell 12, 1: 9, 2: 4, 3: 9, 4: 30. */
    private static OldMeasures market() {
        OldMeasures x = new OldMeasures();
        x.addMeasure(0, 3, 4);
        x.addMeasure(0, 1, 3);
        x.addMeasure(0, 6, 8);
        x.addMeasure(0, 5, 2);
        return x;
    }

    public static void main(String[] args) {
        convert();
        isExact();
        piecesOf();
        pieces();
        isTold();
        bestMeasure();
        bounds();
        changesNothing();
        Check.end("LengthsTest");
    }

    private static void convert() {
        OldMeasures x = market();
        Check.due("23: 5 ells in 1", x.convert(5, 0, 1), 6);
        Check.due("23: 3 ells in 1", x.convert(3, 0, 1), 4);
        Check.due("23: 1 of 2 in ells", x.convert(1, 2, 0), 0);
        Check.due("23: 3 of 2 in ells", x.convert(3, 2, 0), 1);
        Check.due("23: 7 of 1 in 2", x.convert(7, 1, 2), 15);
        Check.due("23: 7 of 1 in 3", x.convert(7, 1, 3), 7);
        Check.due("23: 9 of 4 in 4", x.convert(9, 4, 4), 9);
        x.setStandard(2);
        Check.due("23: whatever the standard", x.convert(5, 0, 1), 6);
    }

    private static void isExact() {
        OldMeasures x = market();
        Check.due("24: 3 ells in 1", x.isExact(3, 0, 1), true);
        Check.due("24: 4 ells in 1", x.isExact(4, 0, 1), false);
        Check.due("24: 4 of 1 in ells", x.isExact(4, 1, 0), true);
        Check.due("24: 1 of 2 in ells", x.isExact(1, 2, 0), false);
        Check.due("24: 1 of 1 in 3", x.isExact(1, 1, 3), true);
        Check.due("24: 1 of 2 in 2", x.isExact(1, 2, 2), true);
        Check.due("24: 2 of 4 in ells", x.isExact(2, 4, 0), true);
        Check.due("24: 2 of 4 in 1", x.isExact(2, 4, 1), false);
    }

    private static void piecesOf() {
        OldMeasures x = market();
        // 5 ells are 60: 2 of 30.
        tellPieces(x, 5, 0, new long[] {0, 0, 0, 0, 2});
        // 11 of 1 are 99: 3 of 30 and one of 9; the 3, as long as the 1, is behind it.
        tellPieces(x, 11, 1, new long[] {0, 1, 0, 0, 3});
        tellPieces(x, 11, 3, new long[] {0, 1, 0, 0, 3});
        // 7 ells are 84: 2 of 30, 2 of 12.
        tellPieces(x, 7, 0, new long[] {2, 0, 0, 0, 2});
        // 13 of 2 are 52: one of 30, one of 12, one of 9, and 1 left.
        tellPieces(x, 13, 2, new long[] {1, 1, 0, 0, 1});
        // 4 of 2 are 16: one of 12 and one of 4.
        tellPieces(x, 4, 2, new long[] {1, 0, 1, 0, 0});
        x.setStandard(4);
        tellPieces(x, 4, 2, new long[] {1, 0, 1, 0, 0});
    }

    private static void tellPieces(OldMeasures x, int many, int one, long[] due) {
        for (int other = 0; other < due.length; other++) {
            Check.due("25: piecesOf(" + many + ", " + one + ", " + other + ")",
                    x.piecesOf(many, one, other), due[other]);
        }
    }

    private static void pieces() {
        OldMeasures x = market();
        Check.due("26: 5 ells", x.pieces(5, 0), 2);
        Check.due("26: 11 of 1", x.pieces(11, 1), 4);
        Check.due("26: 7 ells", x.pieces(7, 0), 4);
        Check.due("26: 13 of 2, something left", x.pieces(13, 2), 3);
        Check.due("26: 1 of 2", x.pieces(1, 2), 1);
        OldMeasures ell = new OldMeasures();
        Check.due("26: the ell alone", ell.pieces(200, 0), 200);
    }

    private static void isTold() {
        OldMeasures x = market();
        Check.due("27: 5 ells", x.isTold(5, 0), true);
        Check.due("27: 11 of 1", x.isTold(11, 1), true);
        Check.due("27: 13 of 2", x.isTold(13, 2), false);
        Check.due("27: 4 of 2", x.isTold(4, 2), true);
        // 12 of 2 are 48: one of 30, one of 12, one of 4, and 2 left, though 4 ells are as long.
        Check.due("27: 12 of 2", x.isTold(12, 2), false);
        Check.due("27: 4 ells", x.isTold(4, 0), false);
        Check.due("27: the ell alone", new OldMeasures().isTold(199, 0), true);
    }

    private static void bestMeasure() {
        OldMeasures x = market();
        Check.due("28: 5 ells are 2 of 4", x.bestMeasure(5, 0), 4);
        Check.due("28: 4 ells", x.bestMeasure(4, 0), 0);
        Check.due("28: 3 of 1", x.bestMeasure(3, 1), 1);
        Check.due("28: of several the smallest number", x.bestMeasure(3, 3), 1);
        Check.due("28: 4 of 3 are 3 ells", x.bestMeasure(4, 3), 0);
        Check.due("28: 2 of 2", x.bestMeasure(2, 2), 2);
        Check.due("28: 9 of 2 are 3 ells", x.bestMeasure(9, 2), 0);
        Check.due("28: 15 of 2 are 2 of 4", x.bestMeasure(15, 2), 4);
        OldMeasures same = new OldMeasures();
        same.addMeasure(0, 7, 7);
        Check.due("28: as long as the ell", same.bestMeasure(1, 1), 0);
    }

    private static void bounds() {
        OldMeasures x = new OldMeasures();
        for (int added = 1; added < 8; added++) {
            x.addMeasure(added - 1, 9, 1);
        }
        Check.due("23: 200 of the longest in ells", x.convert(200, 7, 0), 956593800L);
        Check.due("23: 1 of the longest in ells", x.convert(1, 7, 0), 4782969);
        Check.due("23: 200 ells in the longest", x.convert(200, 0, 7), 0);
        Check.due("24: 200 of the longest in ells", x.isExact(200, 7, 0), true);
        Check.due("24: 200 ells in the longest", x.isExact(200, 0, 7), false);
        Check.due("25: 200 of the longest", x.piecesOf(200, 7, 7), 200);
        Check.due("26: 200 of the longest", x.pieces(200, 7), 200);
        // 200 = 2 * 81 + 4 * 9 + 2.
        Check.due("26: 200 ells", x.pieces(200, 0), 8);
        Check.due("27: 200 ells", x.isTold(200, 0), true);
        Check.due("28: 1 of the longest", x.bestMeasure(1, 7), 7);
        Check.due("28: 200 of the longest", x.bestMeasure(200, 7), 7);
        Check.due("28: 81 ells", x.bestMeasure(81, 0), 2);
    }

    private static void changesNothing() {
        OldMeasures x = market();
        Check.unchangedBy("23 to 28", x, () -> {
            x.convert(7, 2, 1);
            x.isExact(7, 2, 1);
            x.piecesOf(7, 2, 1);
            x.pieces(7, 2);
            x.isTold(7, 2);
            x.bestMeasure(7, 2);
        });
    }
}
