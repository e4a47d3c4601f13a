/-! THE CLASS: a fact that is laid by -/
def HID (p : Prop) : Prop := p
