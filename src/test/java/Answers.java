/** All that can be asked of what was printed last, as a text. */
final class Answers {
    private Answers() {
    }

    static String of(LayoutPress press) {
        StringBuilder all = new StringBuilder();
        for (int line = 0; line < press.lines(); line++) {
            all.append('|');
            for (int column = 0; column < press.length(line); column++) {
                all.append(press.signAt(line, column)).append(press.nodeAt(line, column));
            }
        }
        all.append(" ways ");
        for (int decision = 0; decision < press.decisions(); decision++) {
            all.append(press.wayAt(decision));
        }
        all.append(" places");
        for (int node = 0; node < press.nodes(); node++) {
            all.append(' ').append(press.placeOf(node));
        }
        return all.toString();
    }

    static String of(Reference.Printout out, int nodes) {
        StringBuilder all = new StringBuilder();
        for (int line = 0; line < out.signs.size(); line++) {
            all.append('|');
            for (int column = 0; column < out.length(line); column++) {
                all.append(out.signs.get(line).charAt(column)).append(out.owners.get(line).get(column));
            }
        }
        all.append(" ways ").append(out.ways).append(" places");
        for (int node = 0; node < nodes; node++) {
            all.append(' ').append(out.places[node]);
        }
        return all.toString();
    }

    /** All that can be asked of an object, as a text: its nodes, what was printed last, and its pages. */
    static String all(LayoutPress press) {
        StringBuilder all = new StringBuilder(of(press)).append(" nodes");
        for (int node = 0; node < press.nodes(); node++) {
            all.append(' ').append(press.size(node)).append(' ').append(press.layouts(node));
        }
        all.append(" pages");
        try {
            for (int line = 0; line < press.lines(); line++) {
                all.append(' ').append(press.pageOf(line));
            }
        } catch (IllegalStateException e) {
            all.append(" none");
        }
        return all.toString();
    }

    /** The signs of the lines, each line behind a "|". */
    static String lines(LayoutPress press) {
        StringBuilder all = new StringBuilder();
        for (int line = 0; line < press.lines(); line++) {
            all.append('|');
            for (int column = 0; column < press.length(line); column++) {
                all.append(press.signAt(line, column));
            }
        }
        return all.toString();
    }
}
