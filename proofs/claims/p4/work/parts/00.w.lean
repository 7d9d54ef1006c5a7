/-! THE WHOLE LIBRARY: a name of its rest, told first, so that a round knows at once that it is read over all of it -/
