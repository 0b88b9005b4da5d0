"""The bytes that Examples.some makes."""


def some(n, number):
    b = bytearray((i * i * 7 + i * 31 + number * 59 + 1) & 255 for i in range(n))
    if n and b[0] == 0:
        b[0] = 1
    return bytes(b)
