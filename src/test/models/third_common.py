"""What both halves of the third model share: the random numbers, and lines in the form of src/test/vectors.txt."""
import random
import sys

R = random.Random(int(sys.argv[1]) if len(sys.argv) > 1 else 1)


def rb(n):
    return R.randbytes(n)


def word(argument):
    if isinstance(argument, (bytes, bytearray)):
        return ':' + bytes(argument).hex()
    return str(int(argument))


def emit(name, *arguments, ans=None, rows=()):
    """A call: what it answers (the size of the row that it writes, where nothing else is told), and the bytes."""
    due = len(rows[0]) if ans is None else ans
    words = [name] + [word(a) for a in arguments] + ['=', str(due)] + [bytes(r).hex() for r in rows]
    print(' '.join(words).rstrip())


def run(names):
    """As many cases as the command line tells, each by one of the functions t_.. at random."""
    cases = [f for name, f in sorted(names.items()) if name.startswith('t_')]
    for _ in range(int(sys.argv[2]) if len(sys.argv) > 2 else 100):
        R.choice(cases)()
