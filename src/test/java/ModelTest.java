/** Runs of mixed calls, the same for the program and for the model, on many objects. */
final class ModelTest {
    private static final int OBJECTS = 3000;
    private static final int LOOK_CALLS = 210; // what the closing look takes of the 512 calls
    private static final int STEP_CALLS = 7; // the most that one step of a run takes
    private static final int SET_TEXTS = 20000;

    private long seed;
    private final int addressMask;
    private final int epochs;
    private final String name;
    private final CountedCache cache = new CountedCache();
    private final Model model = new Model();

    private ModelTest(int object) {
        seed = object * 7919L + 17;
        int[] masks = {0x1C, 0x3E, 0xFF, 0x2C, 0x0F, 0x7C};
        addressMask = masks[object % masks.length];
        epochs = object % 4;
        name = "object " + object + ", ";
    }

    public static void main(String[] args) {
        for (int object = 0; object < OBJECTS; object++) {
            new ModelTest(object).run();
        }
        texts();
        Checks.end("ModelTest");
    }

    /** A generator written out, so that each run is the same everywhere. */
    private int below(int bound) {
        seed = seed * 6364136223846793005L + 1442695040888963407L;
        return (int) ((seed >>> 33) % bound);
    }

    private void run() {
        for (int step = 0; cache.callsLeft() >= LOOK_CALLS + STEP_CALLS; step++) {
            String at = name + "step " + step + ", ";
            int kind = below(100);
            if (kind < 36) {
                accessCall(at);
            } else if (kind < 62) {
                partitionCall(at);
            } else if (kind < 74) {
                textCall(at);
            } else if (kind < 84) {
                undoCall(at);
            } else {
                queryCall(at);
            }
        }
        look();
    }

    private void accessCall(String at) {
        int t = below(4);
        int a = below(256) & addressMask;
        int kind = below(10);
        if (kind < 6) {
            Checks.due(at + "access(" + t + ", " + a + ")", cache.access(t, a), model.access(t, a));
        } else if (kind < 9) {
            int step = below(3) == 0 ? 1 + below(64) : 1 << below(4);
            int count = 1 + below(40);
            Checks.due(at + "stream(" + t + ", " + a + ", " + step + ", " + count + ")",
                    cache.stream(t, a, step, count), model.stream(t, a, step, count));
        } else if (below(3) == 0) {
            Checks.due(at + "flush(" + t + ")", cache.flush(t), model.flush(t));
        }
    }

    private void partitionCall(String at) {
        int t = below(4);
        int kind = below(20);
        if (kind < 9) {
            Checks.due(at + "moveWay()", cache.moveWay(), model.moveWay());
        } else if (kind < 14) {
            int way = below(8);
            Checks.due(at + "giveWay(" + way + ", " + t + ")", cache.giveWay(way, t), model.giveWay(way, t));
        } else if (kind < 17) {
            int least = below(3);
            Checks.due(at + "setLeast(" + t + ", " + least + ")", cache.setLeast(t, least), model.setLeast(t, least));
        } else if (kind == 17) {
            Checks.due(at + "halveGains()", cache.halveGains(), model.halveGains());
        } else if (epochs > 0) {
            int epoch = below(epochs == 1 ? 201 : 30);
            Checks.due(at + "setEpoch(" + epoch + ")", cache.setEpoch(epoch), model.setEpoch(epoch));
        }
    }

    private void textCall(String at) {
        int kind = below(10);
        if (kind == 0) {
            Checks.due(at + "clearText()", cache.clearText(), model.clearText());
        } else if (kind < 3) {
            Checks.due(at + "runText()", Checks.outcome(cache::runText), Checks.outcome(model::runText));
        } else if (kind < 4) {
            Checks.due(at + "errorPosition()", cache.errorPosition(), model.errorPosition());
        } else {
            for (char sign : command().toCharArray()) {
                Checks.due(at + "appendText(" + (int) sign + ")", Checks.outcome(() -> cache.appendText(sign)),
                        Checks.outcome(() -> model.appendText(sign)));
            }
        }
    }

    private String command() {
        String before = model.text.isEmpty() ? "" : ";";
        switch (below(12)) {
            case 0:
                return before + "m";
            case 1:
                return before + "h";
            case 2:
                return before + "f" + below(4);
            case 3:
                return below(6) == 0 ? "" + (char) (32 + below(95)) : before;
            default:
                return before + below(4) + ":" + (below(256) & addressMask);
        }
    }

    private void undoCall(String at) {
        int slot = below(2);
        int kind = below(10);
        if (kind < 6) {
            Checks.due(at + "undo()", Checks.outcome(cache::undo), Checks.outcome(model::undo));
        } else if (kind < 8) {
            Checks.due(at + "save(" + slot + ")", cache.save(slot), model.save(slot));
        } else {
            Checks.due(at + "restore(" + slot + ")", Checks.outcome(() -> cache.restore(slot)),
                    Checks.outcome(() -> model.restore(slot)));
        }
    }

    private void queryCall(String at) {
        int t = below(4);
        int a = below(256) & addressMask;
        Checks.due(at + "ifAccessed(" + t + ", " + a + ")", cache.ifAccessed(t, a), model.ifAccessed(t, a));
        Checks.due(at + "victim(" + t + ", " + a + ")", cache.victim(t, a), model.victim(t, a));
        Checks.due(at + "movesLeft()", cache.movesLeft(), model.movesLeft());
    }

    private void look() {
        for (int way = 0; way < 8; way++) {
            Checks.due(name + "owner(" + way + ")", cache.owner(way), model.state.owner[way]);
            for (int set = 0; set < 4; set++) {
                Checks.due(name + "line(" + set + ", " + way + ")", cache.line(set, way), model.line(set, way));
            }
        }
        for (int t = 0; t < 4; t++) {
            lookAtTenant(t);
        }
        Checks.due(name + "movesLeft()", cache.movesLeft(), model.movesLeft());
        Checks.due(name + "totalUtility()", cache.totalUtility(), model.totalUtility());
        Checks.due(name + "accesses()", cache.accesses(), model.state.accesses);
        Checks.due(name + "savedStates()", cache.savedStates(), model.saved.size());
        Checks.due(name + "textLength()", cache.textLength(), model.text.length());
        Checks.due(name + "errorPosition()", cache.errorPosition(), model.errorPosition());
    }

    private void lookAtTenant(int t) {
        String of = name + "tenant " + t + ", ";
        Checks.due(of + "waysOf", cache.waysOf(t), model.waysOf(t));
        Checks.due(of + "target", cache.target(t), model.target(t));
        Checks.due(of + "lines", cache.lines(t, false), model.lines(t, false));
        Checks.due(of + "foreign lines", cache.lines(t, true), model.lines(t, true));
        Checks.due(of + "hitRate", cache.hitRate(t), model.hitRate(t));
        for (int i = 0; i < 8; i++) {
            Checks.due(of + "gain " + i, cache.gain(t, i), model.state.gains[t][i]);
            Checks.due(of + "utility " + (i + 1), cache.utility(t, i + 1), model.utility(t, i + 1));
            Checks.due(of + "monitored 0, " + i, cache.monitored(t, 0, i), model.monitored(t, 0, i));
            Checks.due(of + "monitored 2, " + i, cache.monitored(t, 2, i), model.monitored(t, 2, i));
        }
        for (int what = 0; what < 4; what++) {
            Checks.due(of + "count " + what, cache.count(t, what), model.state.counts[t][what]);
        }
    }

    /** Short texts of signs that matter, against the definition of the error position. */
    private static void texts() {
        ModelTest draw = new ModelTest(1);
        String signs = "0012345569::;;;ffmh x/";
        CountedCache cache = new CountedCache();
        for (int i = 0; i < SET_TEXTS; i++) {
            if (i % 30 == 0) {
                cache = new CountedCache();
            }
            StringBuilder text = new StringBuilder();
            for (int left = draw.below(9); left > 0; left--) {
                text.append(draw.below(3) == 0 ? draw.command() : "" + signs.charAt(draw.below(signs.length())));
            }
            if (text.length() > 14) {
                text.setLength(14);
            }
            Checks.setText(cache, text.toString());
            Checks.due("errorPosition() of \"" + text + "\"", cache.errorPosition(),
                    Model.errorPositionOf(text.toString()));
        }
    }
}
