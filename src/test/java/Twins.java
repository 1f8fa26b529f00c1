import java.util.ArrayList;
import java.util.List;
import java.util.function.Consumer;
import java.util.function.Supplier;
import java.util.function.ToIntFunction;

/**
 * Shows that a call changes nothing: of two objects made alike only one gets the call, and then both must give the
 * same answers. The answers that can't be had without changing something are asked for on new twins each time.
 */
final class Twins {
    private interface Probe {
        void ask(CardTerminal x, List<Integer> answers);
    }

    private static final Probe[] PROBES = {
        Twins::look, Twins::settings, Twins::buffer, Twins::identifiers, Twins::card, Twins::selection,
        (x, answers) -> goOn(x, 0, answers), (x, answers) -> goOn(x, 1, answers), (x, answers) -> goOn(x, 2, answers),
    };

    private Twins() {
    }

    /** The call answers the error and changes nothing. */
    static void refused(String what, Supplier<CardTerminal> scene, ToIntFunction<CardTerminal> call, int error) {
        unchanged(what, scene, x -> Checks.due(what, call.applyAsInt(x), error));
    }

    /** The calls change nothing. */
    static void unchanged(String what, Supplier<CardTerminal> scene, Consumer<CardTerminal> calls) {
        for (int i = 0; i < PROBES.length; i++) {
            CardTerminal one = scene.get();
            calls.accept(one);
            same(what + ", then probe " + i, answers(PROBES[i], one), answers(PROBES[i], scene.get()));
        }
    }

    private static List<Integer> answers(Probe probe, CardTerminal x) {
        List<Integer> answers = new ArrayList<>();
        probe.ask(x, answers);
        return answers;
    }

    private static void same(String what, List<Integer> got, List<Integer> want) {
        Checks.due(what + ": answers", got.size(), want.size());
        for (int i = 0; i < Math.min(got.size(), want.size()); i++) {
            Checks.due(what + ", answer " + i, got.get(i), want.get(i));
        }
    }

    private static void look(CardTerminal x, List<Integer> answers) {
        answers.add(x.errorOffset());
        answers.add(x.objectCount());
        for (int object = 0; object <= 24; object++) {
            answers.add(x.objectTag(object));
            answers.add(x.objectDepth(object));
            answers.add(x.objectLength(object));
        }
        answers.add(x.findObject(79, 2));
        candidates(x, answers);
        totals(x, answers);
    }

    private static void candidates(CardTerminal x, List<Integer> answers) {
        answers.add(x.candidateCount());
        for (int i = 0; i <= 6; i++) {
            answers.add(x.candidateAt(i));
            answers.add(x.priorityOf(i));
        }
    }

    private static void totals(CardTerminal x, List<Integer> answers) {
        for (int outcome = 0; outcome <= 3; outcome++) {
            answers.add(x.outcomeCount(outcome));
            answers.add(x.outcomeAmount(outcome));
        }
        answers.add(x.verificationResults());
        answers.add(x.offlineCounter());
        answers.add(x.reversalCount());
    }

    private static void settings(CardTerminal x, List<Integer> answers) {
        for (int number = 0; number < 3; number++) {
            answers.add(x.setTerminalCode(number, 0));
            answers.add(x.setIssuerCode(number, 0));
        }
        answers.add(x.setFloorLimit(0));
        answers.add(x.setOfflineLimits(0, 0));
        answers.add(x.setRandomTarget(0));
        answers.add(x.setOnline(false));
    }

    private static void buffer(CardTerminal x, List<Integer> answers) {
        answers.add(x.addIdentifier(false));
        answers.add(x.removeIdentifier(0));
        answers.add(x.addIdentifier(true));
        answers.add(x.appendByte(0));
        answers.add(x.errorOffset());
        answers.add(x.clearBytes());
        answers.add(x.clearBytes());
    }

    /** The identifiers of the terminal show in what cards they support, one less of them each time. */
    private static void identifiers(CardTerminal x, List<Integer> answers) {
        x.answer(0);
        int[][] longer = new int[5][];
        for (int i = 0; i < longer.length; i++) {
            longer[i] = Scenes.application(Scenes.identifier(i + 1, 9));
        }
        Scenes.putIn(x, longer);
        candidates(x, answers);
        Scenes.putIn(x, Scenes.busyCard());
        for (int i = 0; i <= 5; i++) {
            candidates(x, answers);
            answers.add(x.removeIdentifier(0));
        }
    }

    private static void card(CardTerminal x, List<Integer> answers) {
        answers.add(x.insertCard());
        answers.add(x.answer(0));
        answers.add(x.insertCard());
        candidates(x, answers);
        for (int application = 0; application < 6; application++) {
            answers.add(x.select(application, false));
            answers.add(x.start(1, 99));
        }
        totals(x, answers);
    }

    private static void selection(CardTerminal x, List<Integer> answers) {
        answers.add(x.start(1, 50));
        answers.add(x.verificationResults());
        answers.add(x.answer(0));
        for (int application = 0; application < 6; application++) {
            answers.add(x.select(application, false));
            answers.add(x.select(application, true));
        }
        answers.add(x.start(1, 50));
        totals(x, answers);
    }

    private static void goOn(CardTerminal x, int answer, List<Integer> answers) {
        answers.add(x.answer(answer));
        totals(x, answers);
        for (int i = 0; i < 8; i++) {
            answers.add(x.start(i % 2 == 0 ? 1 : 60 + 5 * i, 42 - i));
            answers.add(x.verificationResults());
            answers.add(x.answer(i % 3));
            answers.add(x.reversalCount());
        }
        for (int i = 0; i < 4; i++) {
            answers.add(x.sendReversal(false));
            answers.add(x.sendReversal(true));
        }
        totals(x, answers);
    }
}
