/**
 * What an object answers about its methods and its latest run, as a text, so that a test can say that
 * a refused call left it as it was. It asks some hundred times: two of them and the calls between
 * stay within the 512 that are promised.
 */
final class Snapshot {
    static String of(RegisterTranslator x) {
        StringBuilder text = new StringBuilder();
        text.append("methods ").append(x.methods());
        for (int m = 0; m < 6; m++) {
            text.append("; ").append(x.units(m));
        }
        for (int m = 0; m < 2; m++) {
            addMethod(text, x, m);
        }
        text.append("; run ").append(x.value()).append(' ').append(x.steps());
        text.append(' ').append(x.at()).append(' ').append(x.running());
        for (int n = 0; n < 3; n++) {
            for (int k = -1; k < 3; k++) {
                text.append(' ').append(x.cell(n, k));
            }
        }
        return text.toString();
    }

    private static void addMethod(StringBuilder text, RegisterTranslator x, int m) {
        text.append("; method ").append(m);
        for (int k = 0; k < 8; k++) {
            text.append(' ').append(Integer.toHexString(x.unit(m, k)));
        }
        for (int place = 0; place < 6; place++) {
            text.append(' ').append(x.depth(m, place)).append(x.first(m, place));
            text.append(x.state(m, place, 0)).append(x.state(m, place, 8));
        }
    }
}
