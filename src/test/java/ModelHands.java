/** What a process has in hand, as counts: strings, nodes, texts of @, open FORs. */
final class ModelHands {
    int strings;
    int nodes;
    int texts;
    int loops;

    ModelHands copy() {
        ModelHands h = new ModelHands();
        h.set(this);
        return h;
    }

    void set(ModelHands h) {
        strings = h.strings;
        nodes = h.nodes;
        texts = h.texts;
        loops = h.loops;
    }

    String string(String s) {
        if (strings >= 60) throw new ModelError("Z1");
        strings++;
        return s;
    }

    void node() {
        if (nodes >= 40) throw new ModelError("Z1");
        nodes++;
    }

    void text() {
        if (texts >= 24) throw new ModelError("Z1");
        texts++;
    }

    void loop() {
        if (loops >= 40) throw new ModelError("Z1");
        loops++;
    }
}
