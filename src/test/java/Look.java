/** All that an object shows of itself, as a text to compare, in fewer than 120 calls. */
final class Look {
    private Look() {
    }

    static String at(HeapClaims x) {
        StringBuilder text = new StringBuilder();
        for (int side = 0; side < 2; side++) {
            text.append(" pieces ").append(x.pieces(0)).append(" possible ").append(x.possible(0));
            text.append(" holds ").append(x.holds(0)).append(" implies ").append(x.implies());
            text.append(" frame ").append(x.frame());
            for (int a = 0; a <= 5; a++) {
                text.append(x.sure(2, a, a) ? " c" : " -");
                for (int b = 0; b < a; b++) {
                    text.append(x.sure(0, a, b) ? '=' : x.sure(1, a, b) ? '!' : '-');
                }
            }
            x.swap();
        }
        for (int term = 0; term <= 5; term++) {
            text.append(" value ").append(x.value(term));
        }
        for (int address = 0; address <= 10; address++) {
            text.append(" next ").append(x.next(address));
        }
        return text.append(" count ").append(x.count()).toString();
    }
}
