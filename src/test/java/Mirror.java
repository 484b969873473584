import java.util.ArrayDeque;
import java.util.ArrayList;
import java.util.HashMap;
import java.util.HashSet;
import java.util.List;
import java.util.Map;
import java.util.NoSuchElementException;
import java.util.Random;
import java.util.Set;

/**
 * Random runs of calls on a ModedMill and on a slow model of the document, written apart from it:
 * the machine as functions that call what is to be done next, the row by breadth as lists that are copied.
 * Every call must answer the same, or throw the same.
 * Arguments: the number of runs (after the program's path, which .ci/run hands to each test).
 */
public final class Mirror {
    static final class Limit extends RuntimeException {
        Limit() { super(null, null, false, false); }
    }

    static final class Full extends RuntimeException {
        Full() { super(null, null, false, false); }
    }

    static final class Found extends RuntimeException {
        Found() { super(null, null, false, false); }
    }

    static final class TooSlow extends RuntimeException {
        TooSlow() { super(null, null, false, false); }
    }

    // ------------------------------------------------------------------ the model

    static final class G {
        char kind; // b, s, c, d
        int subject;
        int[] v;
    }

    static final class C {
        int pred;
        Integer[] type = new Integer[8];
        List<G> goals = new ArrayList<>();
        List<List<int[]>> order = new ArrayList<>(); // per mode: {goal, chosen, known}
    }

    static final class M {
        int inputs;
        char promise;
        boolean lost, good, fails, repeats;
        int sw;
    }

    static final class P {
        List<Integer> args = new ArrayList<>();
        List<M> modes = new ArrayList<>();
        List<Integer> clauses = new ArrayList<>();
    }

    interface Next {
        void go(int[] values);
    }

    /** A term with unknowns: an unknown has no head. */
    static final class T {
        int head = -1;
        T[] parts = new T[0];
    }

    static final class L {
        List<Object[]> goals = new ArrayList<>(); // {G, T[]}
        Map<T, T> bound = new HashMap<>();
    }

    static final class Model {
        int types;
        List<int[]> cons = new ArrayList<>();
        List<int[]> term = new ArrayList<>();
        List<Long> size = new ArrayList<>();
        List<P> preds = new ArrayList<>();
        List<C> clauses = new ArrayList<>();
        boolean compiled;
        int asked;
        long stepSum;

        P lastP;
        M lastM;
        int[] lastIn;
        List<int[]> answers;
        List<int[]> notes;
        int steps, choices, deepest;
        char end;

        static void io(boolean b) { if (b) throw new IndexOutOfBoundsException(); }
        static void ia(boolean b) { if (b) throw new IllegalArgumentException(); }
        static void is(boolean b) { if (b) throw new IllegalStateException(); }
        static void ns(boolean b) { if (b) throw new NoSuchElementException(); }
        static void un(boolean b) { if (b) throw new UnsupportedOperationException(); }

        boolean tOk(int t) { return t == -1 || t >= 0 && t < types; }

        int addType() {
            is(types == 3 || compiled);
            return types++;
        }

        int addConstructor(int t, int a, int b) {
            io(t < 0 || t >= types || !tOk(a) || !tOk(b));
            ia(a == -1 && b != -1);
            is(cons.size() == 10 || compiled);
            cons.add(new int[] {t, a, b});
            return cons.size() - 1;
        }

        boolean isTerm(int t) { return t >= 0 && t < term.size(); }

        int typeOf(int t) { return cons.get(term.get(t)[0])[0]; }

        int term(int c, int a, int b) {
            io(c < 0 || c >= cons.size());
            int[] k = cons.get(c);
            io(k[1] != -1 && !isTerm(a) || k[2] != -1 && !isTerm(b));
            ia(k[1] != -1 ? typeOf(a) != k[1] : a != 0);
            ia(k[2] != -1 ? typeOf(b) != k[2] : b != 0);
            int t = intern(c, a, b);
            is(t < 0);
            return t;
        }

        int intern(int c, int a, int b) {
            for (int i = 0; i < term.size(); i++) {
                int[] t = term.get(i);
                if (t[0] == c && t[1] == a && t[2] == b) return i;
            }
            if (term.size() == 200) return -1;
            term.add(new int[] {c, a, b});
            long s = 1;
            if (cons.get(c)[1] != -1) s += size.get(a);
            if (cons.get(c)[2] != -1) s += size.get(b);
            size.add(s);
            return term.size() - 1;
        }

        int constructorOf(int t) {
            io(!isTerm(t));
            return term.get(t)[0];
        }

        int partOf(int t, int i) {
            io(!isTerm(t));
            ns(i < 0 || i > 1 || cons.get(term.get(t)[0])[1 + i] == -1);
            return term.get(t)[1 + i];
        }

        long sizeOf(int t) {
            io(!isTerm(t));
            return size.get(t);
        }

        int addPredicate(int a, int b, int c) {
            io(!tOk(a) || !tOk(b) || !tOk(c));
            ia(a == -1 && (b != -1 || c != -1) || b == -1 && c != -1);
            is(preds.size() == 5 || compiled);
            P p = new P();
            for (int t : new int[] {a, b, c}) if (t != -1) p.args.add(t);
            preds.add(p);
            return preds.size() - 1;
        }

        int addMode(int p, int in, char promise) {
            io(p < 0 || p >= preds.size());
            P q = preds.get(p);
            ia(in < 0 || in >= 1 << q.args.size() || "dsmn".indexOf(promise) < 0);
            is(q.modes.size() == 2 || compiled);
            M m = new M();
            m.inputs = in;
            m.promise = promise;
            q.modes.add(m);
            return q.modes.size() - 1;
        }

        int addClause(int p) {
            io(p < 0 || p >= preds.size());
            is(clauses.size() == 12 || compiled);
            C c = new C();
            c.pred = p;
            for (int i = 0; i < preds.get(p).args.size(); i++) c.type[i] = preds.get(p).args.get(i);
            clauses.add(c);
            preds.get(p).clauses.add(clauses.size() - 1);
            return clauses.size() - 1;
        }

        boolean noVar(int v) { return v < 0 || v > 7; }

        int addGoal(C c, char kind, int subject, int[] vars, List<Integer> want) {
            for (int i = want.size(); i < vars.length; i++) ia(vars[i] != 0);
            Integer[] types = c.type.clone();
            for (int i = 0; i < want.size(); i++) {
                if (types[vars[i]] == null) types[vars[i]] = want.get(i);
                ia(!types[vars[i]].equals(want.get(i)));
            }
            is(c.goals.size() == 5 || compiled);
            G g = new G();
            g.kind = kind;
            g.subject = subject;
            g.v = new int[want.size()];
            for (int i = 0; i < want.size(); i++) g.v[i] = vars[i];
            c.type = types;
            c.goals.add(g);
            return c.goals.size() - 1;
        }

        int addBuild(int c, int x, int k, int y, int z) {
            io(c < 0 || c >= clauses.size() || k < 0 || k >= cons.size() || noVar(x) || noVar(y) || noVar(z));
            List<Integer> want = new ArrayList<>();
            for (int t : cons.get(k)) if (t != -1) want.add(t);
            return addGoal(clauses.get(c), 'b', k, new int[] {x, y, z}, want);
        }

        int addSame(int c, int x, int y) {
            io(c < 0 || c >= clauses.size() || noVar(x) || noVar(y));
            C k = clauses.get(c);
            Integer t = k.type[x] == null ? k.type[y] : k.type[x];
            ia(t == null);
            return addGoal(k, 's', -1, new int[] {x, y}, List.of(t, t));
        }

        int addCall(int c, int p, int x, int y, int z, boolean denied) {
            io(c < 0 || c >= clauses.size() || p < 0 || p >= preds.size() || noVar(x) || noVar(y) || noVar(z));
            return addGoal(clauses.get(c), denied ? 'd' : 'c', p, new int[] {x, y, z}, preds.get(p).args);
        }

        boolean allKnown(Set<Integer> known, int[] v, int from) {
            for (int i = from; i < v.length; i++) if (!known.contains(v[i])) return false;
            return true;
        }

        int choose(G g, Set<Integer> known) {
            P p = preds.get(g.subject);
            next:
            for (int m = 0; m < p.modes.size(); m++) {
                for (int i = 0; i < g.v.length; i++) {
                    if ((p.modes.get(m).inputs & 1 << i) != 0 && !known.contains(g.v[i])) continue next;
                }
                return m;
            }
            return -1;
        }

        boolean orderClause(C c, int m, int inputs, int arity) {
            List<int[]> order = new ArrayList<>();
            Set<Integer> known = new HashSet<>();
            for (int i = 0; i < arity; i++) if ((inputs & 1 << i) != 0) known.add(i);
            Set<Integer> left = new java.util.TreeSet<>();
            for (int i = 0; i < c.goals.size(); i++) left.add(i);
            boolean moved = true;
            while (moved) {
                moved = false;
                for (int i : left) {
                    G g = c.goals.get(i);
                    int chosen = -1;
                    boolean can;
                    if (g.kind == 'b') can = known.contains(g.v[0]) || allKnown(known, g.v, 1);
                    else if (g.kind == 's') can = known.contains(g.v[0]) || known.contains(g.v[1]);
                    else {
                        chosen = choose(g, known);
                        can = chosen >= 0 && (g.kind == 'c' || allKnown(known, g.v, 0));
                    }
                    if (can) {
                        int mask = 0;
                        for (int v : known) mask |= 1 << v;
                        order.add(new int[] {i, chosen, mask});
                        for (int v : g.v) known.add(v);
                        left.remove(i);
                        moved = true;
                        break;
                    }
                }
            }
            while (c.order.size() <= m) c.order.add(null);
            c.order.set(m, order);
            for (int i = 0; i < arity; i++) if (!known.contains(i)) return false;
            return left.isEmpty();
        }

        int compile() {
            is(compiled);
            compiled = true;
            for (P p : preds) {
                for (int m = 0; m < p.modes.size(); m++) {
                    M mode = p.modes.get(m);
                    mode.lost = false;
                    for (int c : p.clauses) {
                        if (!orderClause(clauses.get(c), m, mode.inputs, p.args.size())) mode.lost = true;
                    }
                }
            }
            for (P p : preds) for (M m : p.modes) m.good = reachesNoLost(m);
            for (P p : preds) for (int m = 0; m < p.modes.size(); m++) findSwitch(p, m);
            for (P p : preds) for (M m : p.modes) m.fails = m.repeats = false;
            for (int round = 0; round < 30; round++) {
                for (P p : preds) for (int m = 0; m < p.modes.size(); m++) if (p.modes.get(m).good) find(p, m);
            }
            int count = 0;
            for (P p : preds) for (M m : p.modes) if (faultOf(m) != '-') count++;
            return count;
        }

        boolean reachesNoLost(M start) {
            Set<M> seen = new HashSet<>();
            ArrayDeque<M> todo = new ArrayDeque<>();
            todo.add(start);
            seen.add(start);
            while (!todo.isEmpty()) {
                M m = todo.poll();
                if (m.lost) return false;
                for (P p : preds) {
                    int number = p.modes.indexOf(m);
                    if (number < 0) continue;
                    for (int c : p.clauses) {
                        for (int[] o : clauses.get(c).order.get(number)) {
                            if (o[1] >= 0) {
                                M n = preds.get(clauses.get(c).goals.get(o[0]).subject).modes.get(o[1]);
                                if (seen.add(n)) todo.add(n);
                            }
                        }
                    }
                }
            }
            return true;
        }

        void findSwitch(P p, int m) {
            M mode = p.modes.get(m);
            mode.sw = -1;
            for (int in = 0; in < p.args.size(); in++) {
                if ((mode.inputs & 1 << in) == 0 || p.clauses.isEmpty()) continue;
                Set<Integer> heads = new HashSet<>();
                boolean ok = true;
                for (int c : p.clauses) {
                    List<int[]> order = clauses.get(c).order.get(m);
                    if (order.isEmpty()) { ok = false; break; }
                    G g = clauses.get(c).goals.get(order.get(0)[0]);
                    if (g.kind != 'b' || g.v[0] != in || !heads.add(g.subject)) { ok = false; break; }
                }
                if (ok) mode.sw = in;
            }
        }

        void find(P p, int m) {
            M mode = p.modes.get(m);
            boolean all = true, any = false, repeats = false;
            for (int c : p.clauses) {
                C clause = clauses.get(c);
                boolean fails = false;
                List<int[]> order = clause.order.get(m);
                for (int i = 0; i < order.size(); i++) {
                    int[] o = order.get(i);
                    G g = clause.goals.get(o[0]);
                    Set<Integer> known = new HashSet<>();
                    for (int v = 0; v < 8; v++) if ((o[2] & 1 << v) != 0) known.add(v);
                    boolean f = false;
                    if (g.kind == 'b') {
                        f = known.contains(g.v[0]);
                        if (i == 0 && mode.sw >= 0) {
                            f = false;
                            for (int j = 1; j < g.v.length; j++) {
                                if (known.contains(g.v[j]) || g.v[j] == g.v[0]) f = true;
                                for (int k = 1; k < j; k++) if (g.v[k] == g.v[j]) f = true;
                            }
                        }
                    } else if (g.kind == 's') {
                        f = known.contains(g.v[0]) && known.contains(g.v[1]);
                    } else if (g.kind == 'd') {
                        f = true;
                    } else {
                        M n = preds.get(g.subject).modes.get(o[1]);
                        f = n.fails;
                        for (int j = 0; j < g.v.length; j++) {
                            if ((n.inputs & 1 << j) != 0) continue;
                            if (known.contains(g.v[j])) f = true;
                            for (int k = 0; k < j; k++) {
                                if ((n.inputs & 1 << k) == 0 && g.v[k] == g.v[j]) f = true;
                            }
                        }
                        repeats |= n.repeats;
                    }
                    fails |= f;
                }
                all &= fails;
                any |= fails;
            }
            if (mode.sw >= 0) {
                boolean missing = false;
                for (int k = 0; k < cons.size(); k++) {
                    if (cons.get(k)[0] != p.args.get(mode.sw)) continue;
                    boolean has = false;
                    for (int c : p.clauses) {
                        C clause = clauses.get(c);
                        has |= clause.goals.get(clause.order.get(m).get(0)[0]).subject == k;
                    }
                    missing |= !has;
                }
                mode.fails = any || missing;
                mode.repeats = repeats;
            } else {
                mode.fails = all;
                mode.repeats = repeats || p.clauses.size() >= 2;
            }
        }

        char foundOf(M m) { return m.fails ? m.repeats ? 'n' : 's' : m.repeats ? 'm' : 'd'; }

        char faultOf(M m) {
            if (m.lost) return 'o';
            if (!m.good) return '-';
            switch (m.promise) {
                case 'd': return m.fails || m.repeats ? 'p' : '-';
                case 's': return m.repeats ? 'p' : '-';
                case 'm': return m.fails ? 'p' : '-';
                default: return '-';
            }
        }

        int open() {
            is(!compiled);
            compiled = false;
            int n = asked;
            asked = 0;
            stepSum = 0;
            return n;
        }

        M mode(int p, int m) {
            io(p < 0 || p >= preds.size() || m < 0 || m >= preds.get(p).modes.size());
            is(!compiled);
            return preds.get(p).modes.get(m);
        }

        char fault(int p, int m) { return faultOf(mode(p, m)); }

        boolean isGood(int p, int m) { return mode(p, m).good; }

        char found(int p, int m) {
            M k = mode(p, m);
            ns(!k.good);
            return foundOf(k);
        }

        int switchOf(int p, int m) {
            M k = mode(p, m);
            ns(k.lost || k.sw < 0);
            return k.sw;
        }

        int[] placeOf(int c, int m, int i) {
            io(c < 0 || c >= clauses.size() || m < 0 || m >= preds.get(clauses.get(c).pred).modes.size());
            is(!compiled);
            List<int[]> o = clauses.get(c).order.get(m);
            ns(i < 0 || i >= o.size());
            return o.get(i);
        }

        int goalAt(int c, int m, int i) { return placeOf(c, m, i)[0]; }

        int chosenAt(int c, int m, int i) {
            int[] o = placeOf(c, m, i);
            ns(o[1] < 0);
            return o[1];
        }

        // -------------------------------------------------------------- the machine

        int ask(int p, int m, int a, int b, int c) {
            io(p < 0 || p >= preds.size() || m < 0 || m >= preds.get(p).modes.size());
            P q = preds.get(p);
            M k = q.modes.get(m);
            int[] given = {a, b, c};
            for (int i = 0; i < 3; i++) io((k.inputs & 1 << i) != 0 && !isTerm(given[i]));
            for (int i = 0; i < 3; i++) {
                ia((k.inputs & 1 << i) != 0 ? typeOf(given[i]) != q.args.get(i) : given[i] != 0);
            }
            is(!compiled);
            un(!k.good);
            Object[] before = {lastP, lastM, lastIn, answers, notes, steps, choices, deepest, end};
            int termsBefore = term.size();
            lastP = q;
            lastM = k;
            lastIn = new int[q.args.size()];
            for (int i = 0; i < lastIn.length; i++) lastIn[i] = (k.inputs & 1 << i) != 0 ? given[i] : -1;
            answers = new ArrayList<>();
            notes = new ArrayList<>();
            steps = choices = deepest = 0;
            held = refuted = unlike = 0;
            end = 'e';
            try {
                call(p, m, lastIn.clone(), 1, values -> {
                    if (answers.size() == 50) throw new Limit();
                    answers.add(values);
                });
            } catch (Limit e) {
                end = 'l';
            } catch (Full e) {
                seen.merge("# too few numbers", 1, Integer::sum);
                lastP = (P) before[0];
                lastM = (M) before[1];
                lastIn = (int[]) before[2];
                @SuppressWarnings("unchecked") List<int[]> oldAnswers = (List<int[]>) before[3];
                @SuppressWarnings("unchecked") List<int[]> oldNotes = (List<int[]>) before[4];
                answers = oldAnswers;
                notes = oldNotes;
                steps = (int) before[5];
                choices = (int) before[6];
                deepest = (int) before[7];
                end = (char) before[8];
                while (term.size() > termsBefore) {
                    term.remove(term.size() - 1);
                    size.remove(size.size() - 1);
                }
                throw new UnsupportedOperationException();
            }
            asked++;
            stepSum += steps;
            return answers.size();
        }

        void note(char sign, int p, int depth) {
            if (notes.size() < 80) notes.add(new int[] {sign, 100 * p + depth});
        }

        /** The args have -1 for outputs; next is told the values of all arguments of each answer. */
        void call(int p, int m, int[] args, int depth, Next next) {
            note('c', p, depth);
            deepest = Math.max(deepest, depth);
            P q = preds.get(p);
            M mode = q.modes.get(m);
            List<Integer> tried = new ArrayList<>();
            for (int c : q.clauses) {
                C clause = clauses.get(c);
                if (mode.sw >= 0) {
                    G first = clause.goals.get(clause.order.get(m).get(0)[0]);
                    if (first.subject != term.get(args[mode.sw])[0]) continue;
                }
                tried.add(c);
            }
            if (tried.isEmpty()) note('f', p, depth);
            if (tried.size() > 1) choices++;
            for (int i = 0; i < tried.size(); i++) {
                if (i > 0) note('r', p, depth);
                C clause = clauses.get(tried.get(i));
                int[] env = new int[8];
                java.util.Arrays.fill(env, -1);
                System.arraycopy(args, 0, env, 0, args.length);
                goals(clause, m, 0, env, depth, values -> {
                    note('x', p, depth);
                    next.go(java.util.Arrays.copyOf(values, args.length));
                });
            }
        }

        boolean put(int[] env, int variable, int value) {
            if (env[variable] == -1) env[variable] = value;
            return env[variable] == value;
        }

        void goals(C clause, int m, int place, int[] before, int depth, Next next) {
            List<int[]> order = clause.order.get(m);
            if (place == order.size()) {
                next.go(before);
                return;
            }
            if (steps == 300) throw new Limit();
            steps++;
            int[] env = before.clone();
            G g = clause.goals.get(order.get(place)[0]);
            if (g.kind == 'b') {
                if (env[g.v[0]] == -1) {
                    int t = intern(g.subject, g.v.length > 1 ? env[g.v[1]] : 0, g.v.length > 2 ? env[g.v[2]] : 0);
                    if (t < 0) throw new Full();
                    env[g.v[0]] = t;
                } else {
                    int[] t = term.get(env[g.v[0]]);
                    if (t[0] != g.subject) return;
                    for (int i = 1; i < g.v.length; i++) if (!put(env, g.v[i], t[i])) return;
                }
                goals(clause, m, place + 1, env, depth, next);
            } else if (g.kind == 's') {
                int value = Math.max(env[g.v[0]], env[g.v[1]]);
                if (env[g.v[0]] != -1) value = env[g.v[0]];
                if (!put(env, g.v[0], value) || !put(env, g.v[1], value)) return;
                goals(clause, m, place + 1, env, depth, next);
            } else {
                if (depth == 30) throw new Limit();
                int chosen = order.get(place)[1];
                int inputs = preds.get(g.subject).modes.get(chosen).inputs;
                int[] args = new int[g.v.length];
                for (int i = 0; i < args.length; i++) args[i] = (inputs & 1 << i) != 0 ? env[g.v[i]] : -1;
                if (g.kind == 'c') {
                    call(g.subject, chosen, args, depth + 1, values -> {
                        int[] after = env.clone();
                        for (int i = 0; i < values.length; i++) {
                            if ((inputs & 1 << i) == 0 && !put(after, g.v[i], values[i])) return;
                        }
                        goals(clause, m, place + 1, after, depth, next);
                    });
                } else {
                    Found found = new Found();
                    try {
                        call(g.subject, chosen, args, depth + 1, values -> {
                            for (int i = 0; i < values.length; i++) if (values[i] != env[g.v[i]]) {
                                unlike++;
                                return;
                            }
                            throw found;
                        });
                    } catch (Found f) {
                        if (f != found) throw f;
                        refuted++;
                        return;
                    }
                    held++;
                    goals(clause, m, place + 1, env, depth, next);
                }
            }
        }

        void last() { ns(asked == 0); }

        char ending() { last(); return end; }

        int answerAt(int a, int i) {
            last();
            io(a < 0 || a >= answers.size() || i < 0 || i >= lastIn.length);
            return answers.get(a)[i];
        }

        int multiplicity(int a) {
            last();
            io(a < 0 || a >= answers.size());
            int n = 0;
            for (int[] other : answers) if (java.util.Arrays.equals(other, answers.get(a))) n++;
            return n;
        }

        int steps() { last(); return steps; }
        int choicePoints() { last(); return choices; }
        int deepest() { last(); return deepest; }
        int recorded() { last(); return notes.size(); }

        char recordAt(int i) {
            last();
            io(i < 0 || i >= notes.size());
            return (char) notes.get(i)[0];
        }

        int whereAt(int i) {
            last();
            io(i < 0 || i >= notes.size());
            return notes.get(i)[1];
        }

        int terms() { return term.size(); }

        float onceShare() {
            is(!compiled);
            int good = 0, once = 0;
            for (P p : preds) {
                for (M m : p.modes) {
                    if (m.good) good++;
                    if (m.good && !m.repeats) once++;
                }
            }
            if (good == 0) throw new ArithmeticException();
            return (float) once / (float) good;
        }

        double meanSteps() {
            if (asked == 0) throw new ArithmeticException();
            return (double) stepSum / (double) asked;
        }

        // -------------------------------------------------------------- by breadth

        int taken;
        long work;
        int held, refuted, unlike;

        T groundTerm(int t, Map<Integer, T> made) {
            T old = made.get(t);
            if (old != null) return old;
            T n = new T();
            n.head = term.get(t)[0];
            int parts = partCount(n.head);
            n.parts = new T[parts];
            for (int i = 0; i < parts; i++) n.parts[i] = groundTerm(term.get(t)[1 + i], made);
            made.put(t, n);
            return n;
        }

        int partCount(int c) { return cons.get(c)[1] == -1 ? 0 : cons.get(c)[2] == -1 ? 1 : 2; }

        int answersByBreadth() {
            last();
            taken = 0;
            work = 0;
            T[] args = new T[lastIn.length];
            Map<Integer, T> made = new HashMap<>();
            for (int i = 0; i < args.length; i++) args[i] = lastIn[i] == -1 ? new T() : groundTerm(lastIn[i], made);
            return breadth(preds.indexOf(lastP), args, new HashMap<>(), false);
        }

        void count(String what) { seen.merge("# " + what, 1, Integer::sum); }

        int breadth(int p, T[] args, Map<T, T> bound, boolean first) {
            ArrayDeque<L> row = new ArrayDeque<>();
            L start = new L();
            start.bound.putAll(bound);
            G question = new G();
            question.kind = 'c';
            question.subject = p;
            start.goals.add(new Object[] {question, args});
            row.add(start);
            int answers = 0;
            while (!row.isEmpty()) {
                un(taken == 150);
                taken++;
                L list = row.poll();
                if (list.goals.isEmpty()) {
                    answers++;
                    if (first) return answers;
                    continue;
                }
                int at = 0;
                while (at < list.goals.size()) {
                    Object[] goal = list.goals.get(at);
                    if (((G) goal[0]).kind != 'd' || allGround((T[]) goal[1], list.bound)) break;
                    at++;
                }
                if (at > 0) count("by breadth: a denied call waits");
                if (at > 1) count("by breadth: two denied calls wait");
                if (at == list.goals.size()) {
                    count("by breadth: left out");
                    continue;
                }
                Object[] goal = list.goals.get(at);
                G g = (G) goal[0];
                T[] vars = (T[]) goal[1];
                L rest = new L();
                rest.bound.putAll(list.bound);
                rest.goals.addAll(list.goals);
                rest.goals.remove(at);
                if (g.kind == 'b') {
                    T whole = new T();
                    whole.head = g.subject;
                    whole.parts = java.util.Arrays.copyOfRange(vars, 1, vars.length);
                    if (equal(vars[0], whole, rest.bound)) row.add(rest);
                } else if (g.kind == 's') {
                    if (equal(vars[0], vars[1], rest.bound)) row.add(rest);
                } else if (g.kind == 'd') {
                    boolean holds = breadth(g.subject, vars, list.bound, true) == 0;
                    count(holds ? "by breadth: denied, held" : "by breadth: denied, failed");
                    if (holds) row.add(rest);
                } else {
                    for (int c : preds.get(g.subject).clauses) {
                        L child = new L();
                        child.bound.putAll(list.bound);
                        T[] env = new T[8];
                        for (int i = 0; i < 8; i++) env[i] = new T();
                        boolean ok = true;
                        for (int i = 0; i < vars.length; i++) ok &= equal(env[i], vars[i], child.bound);
                        if (!ok) throw new IllegalStateException();
                        for (G h : clauses.get(c).goals) {
                            T[] hv = new T[h.v.length];
                            for (int i = 0; i < hv.length; i++) hv[i] = env[h.v[i]];
                            child.goals.add(new Object[] {h, hv});
                        }
                        child.goals.addAll(rest.goals);
                        row.add(child);
                    }
                }
            }
            return answers;
        }

        T walk(T t, Map<T, T> bound) {
            while (t.head == -1 && bound.containsKey(t)) t = bound.get(t);
            if (++work > 3000000) throw new TooSlow();
            return t;
        }

        boolean allGround(T[] ts, Map<T, T> bound) {
            for (T t : ts) {
                T w = walk(t, bound);
                if (w.head == -1 || !allGround(w.parts, bound)) return false;
            }
            return true;
        }

        boolean occurs(T v, T in, Map<T, T> bound) {
            T w = walk(in, bound);
            if (w == v) return true;
            for (T part : w.parts) if (occurs(v, part, bound)) return true;
            return false;
        }

        boolean equal(T a, T b, Map<T, T> bound) {
            T x = walk(a, bound);
            T y = walk(b, bound);
            if (x == y) return true;
            if (x.head == -1) {
                if (occurs(x, y, bound)) {
                    count("by breadth: contains itself");
                    return false;
                }
                bound.put(x, y);
                return true;
            }
            if (y.head == -1) return equal(y, x, bound);
            if (x.head != y.head) return false;
            for (int i = 0; i < x.parts.length; i++) if (!equal(x.parts[i], y.parts[i], bound)) return false;
            return true;
        }
    }

    // ------------------------------------------------------------------ the runs

    interface Answer {
        String get();
    }

    static String told(Answer a) {
        try {
            return a.get();
        } catch (IndexOutOfBoundsException | IllegalArgumentException | IllegalStateException
                | UnsupportedOperationException | NoSuchElementException | ArithmeticException e) {
            return "throws " + e.getClass().getSimpleName();
        }
    }

    final Random random;
    final ModedMill mill = new ModedMill();
    final Model model = new Model();
    final List<String> calls = new ArrayList<>();
    static final Map<String, Integer> seen = new java.util.TreeMap<>();
    boolean wrong;

    Mirror(long seed) { random = new Random(seed); }

    void check(String call, Answer a, Answer b) {
        String due;
        try {
            due = told(b);
        } catch (TooSlow e) {
            told(a);
            seen.merge("too slow for the model", 1, Integer::sum);
            return;
        }
        String got = told(a);
        calls.add(call + " -> " + got);
        String name = call.substring(0, call.indexOf('('));
        if (got.startsWith("throws") || name.equals("ending") || name.equals("found") || name.equals("fault")) {
            seen.merge(name + " " + got, 1, Integer::sum);
        } else {
            seen.merge(name, 1, Integer::sum);
        }
        if (!got.equals(due)) {
            calls.add("   due is " + due);
            wrong = true;
        }
    }

    int pick(int n) { return random.nextInt(Math.max(1, n)); }

    boolean odds(int percent) { return random.nextInt(100) < percent; }

    /** Mostly a number from 0 to n - 1, at times one that is not there. */
    int near(int n) { return odds(3) ? random.nextInt(6) - 2 + (odds(50) ? n : 0) : pick(n); }

    int typeOrNone() { return odds(40) ? -1 : near(model.types); }

    void addType() { check("addType()", () -> "" + mill.addType(), () -> "" + model.addType()); }

    void addConstructor(int t, int a, int b) {
        check("addConstructor(" + t + ", " + a + ", " + b + ")", () -> "" + mill.addConstructor(t, a, b),
                () -> "" + model.addConstructor(t, a, b));
    }

    void term(int c, int a, int b) {
        check("term(" + c + ", " + a + ", " + b + ")", () -> "" + mill.term(c, a, b), () -> "" + model.term(c, a, b));
    }

    void addPredicate(int a, int b, int c) {
        check("addPredicate(" + a + ", " + b + ", " + c + ")", () -> "" + mill.addPredicate(a, b, c),
                () -> "" + model.addPredicate(a, b, c));
    }

    void addMode(int p, int in, char promise) {
        check("addMode(" + p + ", " + in + ", '" + promise + "')", () -> "" + mill.addMode(p, in, promise),
                () -> "" + model.addMode(p, in, promise));
    }

    void addClause(int p) {
        check("addClause(" + p + ")", () -> "" + mill.addClause(p), () -> "" + model.addClause(p));
    }

    void addBuild(int c, int x, int k, int y, int z) {
        check("addBuild(" + c + ", " + x + ", " + k + ", " + y + ", " + z + ")",
                () -> "" + mill.addBuild(c, x, k, y, z), () -> "" + model.addBuild(c, x, k, y, z));
    }

    void addSame(int c, int x, int y) {
        check("addSame(" + c + ", " + x + ", " + y + ")", () -> "" + mill.addSame(c, x, y),
                () -> "" + model.addSame(c, x, y));
    }

    void addCall(int c, int p, int x, int y, int z, boolean d) {
        check("addCall(" + c + ", " + p + ", " + x + ", " + y + ", " + z + ", " + d + ")",
                () -> "" + mill.addCall(c, p, x, y, z, d), () -> "" + model.addCall(c, p, x, y, z, d));
    }

    void compileOrOpen() {
        if (model.compiled ? odds(5) : odds(95)) {
            check("compile()", () -> "" + mill.compile(), () -> "" + model.compile());
        } else {
            check("open()", () -> "" + mill.open(), () -> "" + model.open());
        }
    }

    /** A variable of a clause that has a type or can get it; those near the arguments are more likely. */
    int variable(int clause, int type) {
        if (odds(2)) return near(8);
        C c = clause >= 0 && clause < model.clauses.size() ? model.clauses.get(clause) : null;
        if (c == null) return pick(8);
        List<Integer> old = new ArrayList<>();
        List<Integer> fresh = new ArrayList<>();
        for (int v = 0; v < 8; v++) {
            if (c.type[v] == null) fresh.add(v);
            else if (c.type[v] == type) old.add(v);
        }
        if (old.isEmpty() && fresh.isEmpty()) return pick(8);
        boolean takesOld = fresh.isEmpty() || !old.isEmpty() && odds(70);
        return takesOld ? old.get(pick(old.size())) : odds(80) ? fresh.get(0) : fresh.get(pick(fresh.size()));
    }

    void addSomeTypes() {
        int types = 1 + pick(odds(10) ? 4 : 2);
        for (int i = 0; i < types; i++) addType();
        for (int t = 0; t < Math.min(types, 3); t++) {
            if (odds(92)) addConstructor(t, -1, -1);
            int more = 1 + pick(3);
            for (int i = 0; i < more; i++) {
                if (odds(5)) addConstructor(near(types), typeOrNone(), typeOrNone());
                else if (odds(25)) addConstructor(t, -1, -1);
                else if (odds(50)) addConstructor(t, odds(60) ? t : pick(types), -1);
                else addConstructor(t, pick(types), odds(60) ? t : pick(types));
            }
        }
    }

    void addSomeTerms(int count) {
        for (int i = 0; i < count; i++) {
            int c = near(model.cons.size());
            int a = 0;
            int b = 0;
            if (c >= 0 && c < model.cons.size()) {
                a = partFor(model.cons.get(c)[1]);
                b = partFor(model.cons.get(c)[2]);
            }
            term(c, a, b);
        }
    }

    int partFor(int type) {
        if (type == -1) return odds(2) ? 1 : 0;
        if (odds(2)) return near(model.term.size());
        List<Integer> all = new ArrayList<>();
        for (int t = 0; t < model.term.size(); t++) if (model.typeOf(t) == type) all.add(t);
        if (all.isEmpty()) return 0;
        return odds(40) ? all.get(all.size() - 1) : all.get(pick(all.size()));
    }

    void addSomePredicates() {
        int count = 1 + pick(odds(5) ? 6 : 3);
        for (int i = 0; i < count; i++) {
            int arity = pick(4);
            if (odds(3)) addPredicate(typeOrNone(), typeOrNone(), typeOrNone());
            else addPredicate(arity > 0 ? pick(model.types) : -1, arity > 1 ? pick(model.types) : -1,
                    arity > 2 ? pick(model.types) : -1);
        }
        for (int p = 0; p < model.preds.size(); p++) {
            int modes = 1 + pick(2);
            for (int i = 0; i < modes; i++) addSomeMode(p);
        }
    }

    void addSomeMode(int p) {
        int arity = p >= 0 && p < model.preds.size() ? model.preds.get(p).args.size() : 0;
        int inputs = odds(30) ? (1 << arity) - 1 : pick(1 << arity);
        addMode(p, odds(2) ? 1 << arity : inputs, odds(2) ? 'x' : "dsmn".charAt(pick(4)));
    }

    void addSomeClauses(int count) {
        for (int i = 0; i < count; i++) {
            int p = near(model.preds.size());
            addClause(p);
            int clause = model.clauses.size() - 1;
            if (p < 0 || p >= model.preds.size()) continue;
            // A first goal that takes an argument apart makes switches likely.
            P pred = model.preds.get(p);
            if (!pred.args.isEmpty() && odds(60)) addSomeBuild(clause, odds(75) ? 0 : pick(pred.args.size()));
            int goals = pick(odds(10) ? 7 : 4);
            for (int g = 0; g < goals; g++) addSomeGoal(clause);
        }
    }

    /** A clause whose goals can be put in an order for a mode, added in any order. */
    void addSomeGoodClause() {
        int p = pick(model.preds.size());
        P pred = model.preds.get(p);
        addClause(p);
        int clause = model.clauses.size() - 1;
        if (model.clauses.isEmpty() || model.clauses.get(clause).pred != p || model.compiled) return;
        int inputs = pred.modes.isEmpty() ? 0 : pred.modes.get(pick(pred.modes.size())).inputs;
        Integer[] type = new Integer[8];
        List<Integer> known = new ArrayList<>();
        List<Integer> open = new ArrayList<>();
        for (int i = 0; i < pred.args.size(); i++) {
            type[i] = pred.args.get(i);
            if ((inputs & 1 << i) != 0) known.add(i);
            else open.add(i);
        }
        List<int[]> goals = new ArrayList<>();
        int work = pick(5);
        for (int i = 0; i < work; i++) {
            int[] g = odds(45) ? someCallOn(type, known, open) : someBuildOn(type, known, open);
            if (g != null) goals.add(g);
        }
        for (int v : new ArrayList<>(open)) {
            if (known.contains(v)) continue;
            int[] g = someValueFor(v, type, known);
            if (g != null) goals.add(g);
            known.add(v);
        }
        if (odds(50)) java.util.Collections.shuffle(goals, random);
        // Denied calls that stand first wait by breadth.
        if (odds(50)) goals.sort((a, b) -> Integer.compare(b[0] == 3 ? 1 : 0, a[0] == 3 ? 1 : 0));
        for (int[] g : goals) {
            if (g[0] == 0) addBuild(clause, g[2], g[1], g[3], g[4]);
            else if (g[0] == 1) addSame(clause, g[2], g[3]);
            else addCall(clause, g[1], g[2], g[3], g[4], g[0] == 3);
        }
    }

    /** A variable of a type that has no value yet, or at times any of this type. */
    int freshFor(int t, Integer[] type, List<Integer> known, List<Integer> open) {
        List<Integer> fit = new ArrayList<>();
        for (int v = 0; v < 8; v++) {
            boolean free = type[v] == null || type[v] == t && !known.contains(v);
            if (free || odds(15) && type[v] != null && type[v] == t) fit.add(v);
        }
        if (fit.isEmpty()) return knownFor(t, type, known);
        int v = odds(60) ? fit.get(0) : fit.get(pick(fit.size()));
        type[v] = t;
        return v;
    }

    int knownFor(int t, Integer[] type, List<Integer> known) {
        List<Integer> fit = new ArrayList<>();
        for (int v : known) if (type[v] != null && type[v] == t) fit.add(v);
        return fit.isEmpty() ? -1 : fit.get(pick(fit.size()));
    }

    int[] someBuildOn(Integer[] type, List<Integer> known, List<Integer> open) {
        int k = pick(model.cons.size());
        int[] c = model.cons.get(k);
        int x = knownFor(c[0], type, known);
        boolean apart = x >= 0 && odds(75);
        if (!apart) x = freshFor(c[0], type, known, open);
        int[] g = {0, k, x, 0, 0};
        for (int i = 1; i < 3; i++) {
            if (c[i] != -1) g[2 + i] = apart ? freshFor(c[i], type, known, open) : knownFor(c[i], type, known);
        }
        if (x < 0 || g[3] < 0 || g[4] < 0) return null;
        known.add(x);
        if (c[1] != -1) known.add(g[3]);
        if (c[2] != -1) known.add(g[4]);
        return g;
    }

    int[] someCallOn(Integer[] type, List<Integer> known, List<Integer> open) {
        int p = pick(model.preds.size());
        P pred = model.preds.get(p);
        if (pred.modes.isEmpty()) return null;
        int inputs = pred.modes.get(pick(pred.modes.size())).inputs;
        boolean denied = odds(35);
        int[] g = {denied ? 3 : 2, p, 0, 0, 0};
        for (int i = 0; i < pred.args.size(); i++) {
            boolean in = denied || (inputs & 1 << i) != 0;
            g[2 + i] = in ? knownFor(pred.args.get(i), type, known) : freshFor(pred.args.get(i), type, known, open);
            if (g[2 + i] < 0) return null;
        }
        for (int i = 0; i < pred.args.size(); i++) known.add(g[2 + i]);
        return g;
    }

    int[] someValueFor(int v, Integer[] type, List<Integer> known) {
        int like = knownFor(type[v], type, known);
        if (like >= 0 && odds(50)) return new int[] {1, -1, v, like, 0};
        for (int tries = 0; tries < 10; tries++) {
            int k = pick(model.cons.size());
            int[] c = model.cons.get(k);
            if (c[0] != type[v]) continue;
            int a = c[1] == -1 ? 0 : knownFor(c[1], type, known);
            int b = c[2] == -1 ? 0 : knownFor(c[2], type, known);
            if (a >= 0 && b >= 0) return new int[] {0, k, v, a, b};
        }
        return null;
    }

    /** New terms, each with the one ahead of it as a part, as many as there are numbers or a few less. */
    void addManyTerms() {
        int count = 185 + pick(20) - model.term.size();
        for (int i = 0; i < count; i++) {
            int latest = model.term.size() - 1;
            int c = 0;
            int a = 0;
            int b = 0;
            for (int k = 0; k < model.cons.size() && latest >= 0; k++) {
                int[] q = model.cons.get(k);
                int other = q[2] == -1 || q[1] == -1 ? 0 : partFor(q[2]);
                if (q[1] == model.typeOf(latest) && (c == 0 || odds(50))) {
                    c = k;
                    a = latest;
                    b = other;
                }
            }
            term(c, a, b);
        }
    }

    void addSomeBuild(int clause, int x) {
        C c = clause >= 0 && clause < model.clauses.size() ? model.clauses.get(clause) : null;
        List<Integer> fit = new ArrayList<>();
        for (int k = 0; k < model.cons.size(); k++) {
            if (c == null || x < 0 || x > 7 || c.type[x] == null || c.type[x] == model.cons.get(k)[0]) fit.add(k);
        }
        int k = fit.isEmpty() || odds(2) ? near(model.cons.size()) : fit.get(pick(fit.size()));
        int y = 0;
        int z = 0;
        if (k >= 0 && k < model.cons.size()) {
            int[] q = model.cons.get(k);
            y = q[1] == -1 ? odds(1) ? 1 : 0 : variable(clause, q[1]);
            z = q[2] == -1 ? odds(1) ? 1 : 0 : variable(clause, q[2]);
        }
        addBuild(clause, x, k, y, z);
    }

    void addSomeGoal(int clause) {
        int what = pick(100);
        if (what < 40) {
            addSomeBuild(clause, variable(clause, pick(model.types)));
        } else if (what < 52) {
            int t = pick(model.types);
            addSame(clause, variable(clause, t), variable(clause, t));
        } else {
            int p = near(model.preds.size());
            int[] v = new int[3];
            if (p >= 0 && p < model.preds.size()) {
                for (int i = 0; i < model.preds.get(p).args.size(); i++) v[i] = variable(clause, model.preds.get(p).args.get(i));
            }
            addCall(clause, p, v[0], v[1], odds(1) ? 1 : v[2], what < 65);
        }
    }

    void askSome() {
        int p = near(model.preds.size());
        int modes = p >= 0 && p < model.preds.size() ? model.preds.get(p).modes.size() : 1;
        int m = near(modes);
        int[] t = new int[3];
        if (p >= 0 && p < model.preds.size() && m >= 0 && m < modes) {
            P q = model.preds.get(p);
            for (int i = 0; i < q.args.size(); i++) {
                if ((q.modes.get(m).inputs & 1 << i) != 0) t[i] = partFor(q.args.get(i));
            }
        }
        if (odds(3)) t[pick(3)] = near(model.term.size());
        check("ask(" + p + ", " + m + ", " + t[0] + ", " + t[1] + ", " + t[2] + ")",
                () -> "" + mill.ask(p, m, t[0], t[1], t[2]), () -> "" + model.ask(p, m, t[0], t[1], t[2]));
    }

    void lookAtQuestion() {
        check("ending()", () -> "" + mill.ending(), () -> "" + model.ending());
        check("steps()", () -> "" + mill.steps(), () -> "" + model.steps());
        check("choicePoints()", () -> "" + mill.choicePoints(), () -> "" + model.choicePoints());
        check("deepest()", () -> "" + mill.deepest(), () -> "" + model.deepest());
        check("recorded()", () -> "" + mill.recorded(), () -> "" + model.recorded());
        check("answersByBreadth()", () -> "" + mill.answersByBreadth(), () -> "" + model.answersByBreadth());
        check("meanSteps()", () -> "" + mill.meanSteps(), () -> "" + model.meanSteps());
        check("terms()", () -> "" + mill.terms(), () -> "" + model.terms());
        check("wholeRecord()", () -> record(true), () -> record(false));
        check("allAnswers()", () -> answers(true), () -> answers(false));
        int i = near(odds(50) ? 10 : 80);
        check("recordAt(" + i + ")", () -> "" + mill.recordAt(i), () -> "" + model.recordAt(i));
        check("whereAt(" + i + ")", () -> "" + mill.whereAt(i), () -> "" + model.whereAt(i));
        int a = near(3);
        int g = near(3);
        check("answerAt(" + a + ", " + g + ")", () -> "" + mill.answerAt(a, g), () -> "" + model.answerAt(a, g));
        check("multiplicity(" + a + ")", () -> "" + mill.multiplicity(a), () -> "" + model.multiplicity(a));
    }

    String record(boolean ofMill) {
        StringBuilder all = new StringBuilder();
        int n = ofMill ? mill.recorded() : model.recorded();
        for (int i = 0; i < n; i++) {
            all.append(ofMill ? mill.recordAt(i) : model.recordAt(i));
            all.append(ofMill ? mill.whereAt(i) : model.whereAt(i)).append(' ');
        }
        return all.toString();
    }

    String answers(boolean ofMill) {
        StringBuilder all = new StringBuilder();
        int n = model.answers == null || model.asked == 0 ? 0 : model.answers.size();
        for (int a = 0; a < n; a++) {
            for (int i = 0; i < model.lastIn.length; i++) {
                all.append(ofMill ? mill.answerAt(a, i) : model.answerAt(a, i)).append(',');
            }
            all.append(ofMill ? mill.multiplicity(a) : model.multiplicity(a)).append(' ');
        }
        return all.toString();
    }

    void lookAtCompiled() {
        for (int p = 0; p < model.preds.size(); p++) {
            for (int m = 0; m < model.preds.get(p).modes.size(); m++) lookAtMode(p, m);
        }
        lookAtMode(near(model.preds.size()), near(2));
        for (int c = 0; c < model.clauses.size(); c++) {
            for (int m = 0; m < 2; m++) {
                for (int i = 0; i <= model.clauses.get(c).goals.size(); i++) lookAtPlace(c, m, i);
            }
        }
        lookAtPlace(near(model.clauses.size()), near(2), near(5));
        check("onceShare()", () -> "" + mill.onceShare(), () -> "" + model.onceShare());
    }

    void lookAtMode(int p, int m) {
        check("fault(" + p + ", " + m + ")", () -> "" + mill.fault(p, m), () -> "" + model.fault(p, m));
        check("isGood(" + p + ", " + m + ")", () -> "" + mill.isGood(p, m), () -> "" + model.isGood(p, m));
        check("found(" + p + ", " + m + ")", () -> "" + mill.found(p, m), () -> "" + model.found(p, m));
        check("switchOf(" + p + ", " + m + ")", () -> "" + mill.switchOf(p, m), () -> "" + model.switchOf(p, m));
    }

    void lookAtPlace(int c, int m, int i) {
        check("goalAt(" + c + ", " + m + ", " + i + ")", () -> "" + mill.goalAt(c, m, i),
                () -> "" + model.goalAt(c, m, i));
        check("chosenAt(" + c + ", " + m + ", " + i + ")", () -> "" + mill.chosenAt(c, m, i),
                () -> "" + model.chosenAt(c, m, i));
    }

    void lookAtTerms() {
        int t = near(model.term.size());
        check("constructorOf(" + t + ")", () -> "" + mill.constructorOf(t), () -> "" + model.constructorOf(t));
        int i = near(2);
        check("partOf(" + t + ", " + i + ")", () -> "" + mill.partOf(t, i), () -> "" + model.partOf(t, i));
        check("sizeOf(" + t + ")", () -> "" + mill.sizeOf(t), () -> "" + model.sizeOf(t));
    }

    void allTerms() {
        for (int t = 0; t < model.term.size(); t++) {
            int n = t;
            check("constructorOf(" + n + ")", () -> "" + mill.constructorOf(n), () -> "" + model.constructorOf(n));
            check("sizeOf(" + n + ")", () -> "" + mill.sizeOf(n), () -> "" + model.sizeOf(n));
            for (int j = 0; j < 2; j++) {
                int k = j;
                check("partOf(" + n + ", " + k + ")", () -> "" + mill.partOf(n, k), () -> "" + model.partOf(n, k));
            }
        }
    }

    void count(String what, boolean isSo) {
        if (isSo) seen.merge("# " + what, 1, Integer::sum);
    }

    void countKinds() {
        count("answered", true);
        count("with answers", !model.answers.isEmpty());
        count("more than 3 answers", model.answers.size() > 3);
        count("50 answers, l", model.answers.size() == 50 && model.end == 'l');
        count("300 steps, l", model.steps == 300 && model.end == 'l');
        count("depth 30, l", model.deepest == 30 && model.end == 'l');
        count("full record", model.notes.size() == 80);
        count("choice points", model.choices > 0);
        count("denied held", model.held > 0);
        count("denied failed", model.refuted > 0);
        count("deniedunlike", model.unlike > 0);
        count("steps > 10", model.steps > 10);
        count("deep > 3", model.deepest > 3);
    }

    boolean run() {
        addSomeTypes();
        addSomePredicates();
        int clauses = 2 + pick(odds(5) ? 13 : 8);
        boolean mostlyGood = odds(70);
        for (int i = 0; i < clauses; i++) {
            if (mostlyGood && odds(95) && !model.preds.isEmpty() && !model.cons.isEmpty()) addSomeGoodClause();
            else addSomeClauses(1);
        }
        addSomeTerms(5 + pick(12));
        if (odds(8)) addManyTerms();
        int rounds = 1 + pick(3);
        for (int round = 0; round < rounds; round++) {
            if (odds(10)) askSome();
            compileOrOpen();
            lookAtCompiled();
            if (odds(20)) lookAtQuestion();
            int questions = 3 + pick(10);
            for (int q = 0; q < questions && !wrong; q++) {
                int before = model.asked;
                askSome();
                if (model.asked > before) countKinds();
                lookAtQuestion();
                if (odds(20)) addSomeTerms(1);
                lookAtTerms();
            }
            if (odds(10)) addSomeClauses(1);
            compileOrOpen();
            if (!model.compiled) {
                if (odds(30)) lookAtCompiled();
                if (odds(30)) addSomeTypes();
                if (odds(30)) addSomePredicates();
                addSomeClauses(pick(3));
                for (int i = pick(3); i > 0; i--) addSomeGoal(pick(model.clauses.size()));
            }
        }
        allTerms();
        return !wrong;
    }

    public static void main(String[] args) {
        int runs = args.length > 1 ? Integer.parseInt(args[1]) : 3000;
        long from = args.length > 2 ? Long.parseLong(args[2]) : 0;
        int bad = 0;
        for (long seed = from; seed < from + runs && bad < 3; seed++) {
            Mirror mirror = new Mirror(seed);
            if (!mirror.run()) {
                bad++;
                System.out.println("run " + seed + ":");
                for (String call : mirror.calls) System.out.println("  " + call);
            }
        }
        if (args.length > 3) for (Map.Entry<String, Integer> e : seen.entrySet()) System.out.println(e.getKey() + ": " + e.getValue());
        System.out.println(bad == 0 ? "all runs answer like the model" : bad + " runs do not answer like the model");
        if (bad != 0) System.exit(1);
    }
}
