/-! the string constant of the tape, at place -3; its bytes at -5 -/
