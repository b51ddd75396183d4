/-- facts that omega shall not split -/
def Hid (p : Prop) : Prop := p
theorem Hid.mk {p : Prop} (h : p) : Hid p := h
theorem Hid.g {p : Prop} (h : Hid p) : p := h
