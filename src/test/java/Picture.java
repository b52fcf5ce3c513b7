/** All that a codex tells of its state, as one text. */
final class Picture {
    private Picture() {
    }

    static String of(GooseCodex x) {
        StringBuilder all = new StringBuilder();
        all.append("beats ").append(x.beats()).append(" bribes ").append(x.bribes());
        all.append(" retreats ").append(x.retreats()).append(" in ").append(x.inFarm());
        for (int g = 0; g < x.gates(); g++) {
            all.append(" gate ").append(x.rankOf(g)).append('/').append(x.awakeAt(g));
        }
        for (int g = 0; g < x.geese(); g++) {
            all.append(" goose ").append(x.gateOf(g)).append('/').append(x.temperOf(g));
            all.append('/').append(x.calmFor(g)).append('/').append(x.eatenBy(g));
        }
        for (int v = 0; v < x.visitors(); v++) {
            all.append(" visitor ").append(x.passedBy(v)).append('/').append(x.cornsOf(v));
            all.append('/').append(x.nerveOf(v)).append('/').append(x.retreatOf(v));
            all.append('/').append(x.hissAt(v));
        }
        return all.append(' ').append(x.digest()).toString();
    }
}
