import java.util.List;
import java.util.function.Supplier;

/** Chains at the edges of what they hold. Each call makes the same chain anew, so that two of them can be compared. */
final class Scenes {
    static final List<Supplier<DeafChain>> ALL =
        List.of(DeafChain::new, Scenes::full, Scenes::emptied, Scenes::unsaved, Scenes::sixtyCharacters);

    private Scenes() {
    }

    /** The most of all: 8 sentences wait, 6 arrivals and 6 states are kept, a snapshot, a stop, and 60 characters. */
    static DeafChain full() {
        DeafChain chain = new DeafChain();
        chain.teach(2, 29, DeafChain.NONE);
        chain.teach(4, 9, 8);
        chain.ear(1, 2);
        chain.fee(3, 9);
        Check.obey(chain, "say1,2,3;go;say29,28;go;say5#9;go;say6,6,6;go");
        chain.keep();
        Check.obey(chain, "say9;go;say8,7,6,5;go;say4;go");
        Check.obey(chain, "say0;say1,2,3,9;say2#5;say3;say4#9;say5;say6;say7#9;say8");
        chain.fee(0, 0);
        Check.type(chain, "go;go;go;go;go;go;go;go;go;go;go;go;go;go;go;go;go;go;go;go;");
        return chain;
    }

    /** None waits any more, and the orders in the buffer are complete. */
    static DeafChain emptied() {
        DeafChain chain = new DeafChain();
        chain.ear(0, 1);
        Check.obey(chain, "say1,2;say3");
        chain.keep();
        Check.obey(chain, "go;go;go");
        Check.type(chain, "ear5=9");
        return chain;
    }

    /** No state is saved, but there is a snapshot. */
    static DeafChain unsaved() {
        DeafChain chain = new DeafChain();
        Check.obey(chain, "say1,2;fee3=0;teach0:1=?");
        chain.keep();
        chain.undo();
        return chain;
    }

    /** Sixty characters that are complete orders, states are saved, and there is no snapshot. */
    static DeafChain sixtyCharacters() {
        DeafChain chain = new DeafChain();
        Check.obey(chain, "say7#3;teach5:7=29;go;say0");
        Check.type(chain, "go;go;go;go;go;go;go;go;go;go;go;go;go;go;go;go;go;go;ear0=1");
        return chain;
    }

    /** All that can be told of a chain: its digest, then what was saved, then its snapshot; it is used up by that. */
    static String tellAll(DeafChain chain) {
        StringBuilder text = new StringBuilder();
        text.append(chain.digest());
        text.append(" firstError ").append(chain.firstError());
        for (int time = 0; time < 7; time++) {
            text.append(" undo ").append(Check.outcome(chain::undo)).append(' ').append(chain.digest());
        }
        text.append(" restore ").append(Check.outcome(chain::restore)).append(' ').append(chain.digest());
        return text.toString();
    }
}
