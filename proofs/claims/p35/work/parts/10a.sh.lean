/-- what is told, shut from arithmetic -/
def Sh0 (p : Prop) : Prop := p
theorem Sh0_i {p : Prop} (h : p) : Sh0 p := h
theorem Sh0_e {p : Prop} (h : Sh0 p) : p := h
