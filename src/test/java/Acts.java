import java.util.ArrayList;
import java.util.List;

/** The acts as Java's own classes, which find a body by Java's own way; for tests to compare with. */
final class Acts {
    static final List<Integer> RAN = new ArrayList<>();

    interface Pushes {
        int number();

        default int pushes(int x) {
            RAN.add(1);
            return x + number();
        }
    }

    interface Tells {
        int turns(int x);

        int sinks(int x);

        default int tells(int x) {
            RAN.add(2);
            return turns(x) - sinks(1);
        }
    }

    static class Turn implements Pushes, Tells {
        final int number;

        Turn(int number) {
            this.number = number;
        }

        @Override public int number() {
            return number;
        }

        @Override public int turns(int x) {
            RAN.add(10);
            return pushes(x) * 2;
        }

        @Override public int sinks(int x) {
            RAN.add(11);
            return x ^ number;
        }
    }

    static class Held extends Turn {
        Held(int number) {
            super(number);
        }

        @Override public int pushes(int x) {
            RAN.add(20);
            return super.pushes(x) + 3;
        }
    }

    static class Failing extends Turn {
        Failing(int number) {
            super(number);
        }

        @Override public int turns(int x) {
            RAN.add(30);
            return -super.turns(x);
        }
    }

    static class Sunk extends Failing {
        Sunk(int number) {
            super(number);
        }

        @Override public int sinks(int x) {
            RAN.add(40);
            return super.sinks(x) * 3;
        }

        @Override public int turns(int x) {
            RAN.add(41);
            return super.turns(x + 1);
        }
    }

    static class Rescued extends Held {
        Rescued(int number) {
            super(number);
        }

        @Override public int sinks(int x) {
            RAN.add(50);
            return super.sinks(x) - pushes(2);
        }
    }

    static class Crossed extends Sunk {
        Crossed(int number) {
            super(number);
        }

        @Override public int tells(int x) {
            RAN.add(60);
            return super.tells(x) ^ 5;
        }
    }

    static class Idle extends Turn {
        Idle(int number) {
            super(number);
        }

        @Override public int pushes(int x) {
            RAN.add(70);
            return super.pushes(x) * 2;
        }
    }

    static class Knocked extends Rescued {
        Knocked(int number) {
            super(number);
        }

        @Override public int turns(int x) {
            RAN.add(80);
            return super.turns(x) + sinks(2);
        }

        @Override public int tells(int x) {
            RAN.add(81);
            return super.tells(x) - 1;
        }
    }

    private Acts() { }

    static Turn made(int kind, int number) {
        switch (kind) {
            case 0: return new Turn(number);
            case 1: return new Held(number);
            case 2: return new Failing(number);
            case 3: return new Sunk(number);
            case 4: return new Rescued(number);
            case 5: return new Crossed(number);
            case 6: return new Idle(number);
            default: return new Knocked(number);
        }
    }

    static int acted(Turn turn, int act, int x) {
        switch (act) {
            case 0: return turn.pushes(x);
            case 1: return turn.turns(x);
            case 2: return turn.sinks(x);
            default: return turn.tells(x);
        }
    }

    static int kindOf(Turn turn) {
        for (int kind = 0; kind < 8; kind++) {
            if (made(kind, 0).getClass() == turn.getClass()) {
                return kind;
            }
        }
        return -1;
    }
}
