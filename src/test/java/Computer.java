/** A SmallComputer as the document lets it be used: a call beyond the 512th counts as wrong. */
final class Computer {
    private static final int MOST_CALLS = 512;

    private final SmallComputer inner = new SmallComputer();
    private int calls;

    private SmallComputer called() {
        calls++;
        if (calls == MOST_CALLS + 1) {
            Check.due("calls of one object in a test", calls, MOST_CALLS);
        }
        return inner;
    }

    int calls() {
        return calls;
    }

    boolean poke(int address, int b) {
        return called().poke(address, b);
    }

    boolean load(int word, int n) {
        return called().load(word, n);
    }

    boolean seek(int address) {
        return called().seek(address);
    }

    int peek(int address) {
        return called().peek(address);
    }

    boolean step(int n) {
        return called().step(n);
    }

    int register(int k) {
        return called().register(k);
    }

    boolean put(int k, int v) {
        return called().put(k, v);
    }

    boolean halted() {
        return called().halted();
    }

    boolean key(int code) {
        return called().key(code);
    }

    boolean transfer(int b) {
        return called().transfer(b);
    }

    int lines(int which) {
        return called().lines(which);
    }

    int count() {
        return called().count();
    }

    int interrupts() {
        return called().interrupts();
    }
}
