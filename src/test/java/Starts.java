/** Objects on which calls are tried: sheets with definitions, a text that is not the sheet's, and a history. */
final class Starts {
    private Starts() {
    }

    /** Three formulas (of 3, 3 and 8 nodes as read), two states in the history, and a text of 10 signs. */
    static LeastPlaces partly() {
        LeastPlaces x = Check.sheet("A=a+b;B=A*c;(B-A)*!(d+7)");
        x.setCell(0, 3);
        x.clearText();
        Check.type(x, "A=a*b;!A-1");
        return x;
    }

    /** The same, with five states in the history. */
    static LeastPlaces full() {
        LeastPlaces x = partly();
        x.setCell(7, -5);
        x.setPlaces(2);
        x.turn(2, 5);
        return x;
    }
}
