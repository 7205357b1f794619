/** Tells a small CHAMBER line by line; by itself the law is first, bar 0, dies 9, and all come. */
final class Town {
    private final int meanings;
    private String law = "first";
    private int bar;
    private int dies = 9;
    private final StringBuilder lines = new StringBuilder();

    private Town(int meanings) {
        this.meanings = meanings;
    }

    static Town of(int meanings) {
        return new Town(meanings);
    }

    Town law(String name) {
        law = name;
        return this;
    }

    Town bar(int n) {
        bar = n;
        return this;
    }

    Town dies(int n) {
        dies = n;
        return this;
    }

    Town district(int seats) {
        lines.append("district seats ").append(seats).append(";\n");
        return this;
    }

    Town word(int letters, int district, int party, int... means) {
        lines.append("word letters ").append(letters).append(" in ").append(district).append(" party ").append(party)
            .append(" means").append(joined(means)).append(";\n");
        return this;
    }

    Town speaker(int district, int votes, int... needs) {
        return comer(district, votes, 100, needs);
    }

    Town comer(int district, int votes, int comes, int... needs) {
        lines.append("speaker in ").append(district).append(" votes ").append(votes).append(" comes ").append(comes)
            .append(" needs").append(joined(needs)).append(";\n");
        return this;
    }

    Town round(int goal, int left, int right) {
        lines.append("round ").append(goal).append(" by ").append(left).append(" and ").append(right).append(";\n");
        return this;
    }

    private static String joined(int[] numbers) {
        StringBuilder out = new StringBuilder();
        for (int n : numbers) {
            out.append(' ').append(n);
        }
        return out.toString();
    }

    String text() {
        return "chamber meanings " + meanings + " law " + law + " bar " + bar + " dies " + dies + ";\n" + lines;
    }

    WordSeats open() {
        return Due.chamber(text());
    }

    /** Behind its first TERM. */
    WordSeats seated() {
        WordSeats x = open();
        x.term();
        return x;
    }

    /** A CHAMBER of one LINE. */
    static WordSeats bare() {
        return of(1).open();
    }
}
