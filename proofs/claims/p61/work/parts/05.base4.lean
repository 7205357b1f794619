/-! bits, relations -/
