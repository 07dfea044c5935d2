import java.util.ArrayList;
import java.util.List;

/** Draws codes that mostly do something: snippets that bring their own numbers, and now and then anything. */
final class CodeDraw {
    private final Draw draw;
    private final int accounts;
    private final List<Integer> octets = new ArrayList<>();
    private final List<Integer> begins = new ArrayList<>();
    private final List<Integer> jumps = new ArrayList<>();

    CodeDraw(Draw draw, int accounts) {
        this.draw = draw;
        this.accounts = accounts;
    }

    List<Integer> next() {
        octets.clear();
        begins.clear();
        jumps.clear();
        if (draw.oneIn(20)) {
            return loopOfEvents();
        }
        int snippets = 1 + draw.below(draw.oneIn(4) ? 25 : 9);
        for (int i = 0; i < snippets && octets.size() < 160; i++) {
            snippet();
        }
        for (int place : jumps) {
            octets.set(place, draw.oneIn(60) ? draw.below(256) : begins.get(draw.below(begins.size())));
        }
        if (draw.oneIn(40)) {
            octets.add(draw.below(256));
        }
        if (!octets.isEmpty() && draw.oneIn(60)) {
            octets.set(draw.below(octets.size()), draw.below(256));
        }
        return octets;
    }

    /** ARGUMENT; EMIT it, CALL another one with it, and on with one less while it is not 0; or REVERT at the end. */
    private List<Integer> loopOfEvents() {
        act(27);
        act(4, 0);
        act(4, 0);
        act(35);
        big(draw.below(300));
        act(1, draw.below(9));
        act(1, 0);
        act(1, draw.below(accounts));
        act(31);
        act(3);
        act(3);
        act(1, 1);
        act(7);
        act(4, 0);
        act(20, 1);
        if (draw.oneIn(3)) {
            act(37);
        }
        return octets;
    }

    private void act(int act, int... behind) {
        begins.add(octets.size());
        octets.add(act);
        for (int octet : behind) {
            octets.add(octet & 255);
        }
    }

    private void big(long number) {
        begins.add(octets.size());
        octets.add(2);
        for (int i = 7; i >= 0; i--) {
            octets.add((int) (number >>> 8 * i) & 255);
        }
    }

    private void someNumber() {
        switch (draw.below(8)) {
            case 0: act(27); break;
            case 1: act(23 + draw.below(7)); break;
            case 2: big(draw.number() >> draw.below(64)); break;
            case 3: act(1, draw.below(256)); break;
            default: act(1, draw.below(4)); break;
        }
    }

    private void someAccount() {
        if (draw.oneIn(12)) {
            act(draw.oneOf(23, 24, 25, 27));
        } else if (draw.oneIn(20)) {
            act(1, draw.oneOf(-1, 31, 32, 33, 127, -128));
        } else {
            act(1, draw.below(accounts));
        }
    }

    private void someCell() {
        act(1, draw.oneIn(20) ? draw.oneOf(-1, 15, 16, 17, -128) : draw.below(3));
    }

    private void someGas() {
        switch (draw.below(6)) {
            case 0: act(1, draw.below(256)); break;
            case 1: act(29); break;
            case 2: big(draw.number()); break;
            default: big(draw.below(4000)); break;
        }
    }

    private void snippet() {
        switch (draw.below(26)) {
            case 0: someNumber(); break;
            case 1: someNumber(); someNumber(); act(6 + draw.below(12)); break;
            case 2: someNumber(); act(18); break;
            case 3: case 4: someCell(); someNumber(); act(22); break;
            case 5: someCell(); act(21); break;
            case 6: act(1, draw.below(5)); act(1, 0); act(22); break;
            case 7: case 8: case 9: case 10: call(); break;
            case 11: case 12: look(); break;
            case 13: act(1, draw.below(17)); act(1, draw.below(6) - 1); act(33); break;
            case 14: act(1, draw.below(10)); if (draw.oneIn(2)) { act(34); } break;
            case 15: case 16: someNumber(); someNumber(); act(35); break;
            case 17: if (draw.oneIn(2)) { act(39); } break;
            case 18: act(27); act(20, 0); jumps.add(octets.size() - 1); break;
            case 19: if (draw.oneIn(3)) { act(19, 0); jumps.add(octets.size() - 1); } break;
            case 20: someNumber(); if (draw.oneIn(3)) { act(36); } break;
            case 21: someNumber(); if (draw.oneIn(3)) { act(37); } break;
            case 22: someAccount(); if (draw.oneIn(4)) { act(38); } break;
            case 23: someAccount(); act(30); break;
            case 24: act(draw.oneOf(3, 3, 0)); break;
            default: act(draw.oneOf(4, 5), draw.oneIn(10) ? draw.below(30) : draw.below(3)); break;
        }
    }

    private void call() {
        someGas();
        if (draw.oneIn(2)) {
            act(27);
            act(1, 1);
            act(7);
        } else {
            someNumber();
        }
        act(1, draw.oneIn(3) ? draw.below(6) - 1 : 0);
        someAccount();
        act(31);
        useResult();
    }

    private void look() {
        someGas();
        someNumber();
        someAccount();
        act(32);
        useResult();
    }

    private void useResult() {
        switch (draw.below(4)) {
            case 0: act(35); break;
            case 1: act(3); act(3); break;
            case 2: act(20, 0); jumps.add(octets.size() - 1); break;
            default: break;
        }
    }
}
