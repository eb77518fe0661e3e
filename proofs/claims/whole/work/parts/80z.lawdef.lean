/-! the law as a method of the layer -/
def mL : MT := (yL_law, code, 4, ret, 12)
