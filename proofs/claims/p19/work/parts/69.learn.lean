/-- kept shut -/
def Shut (p : Prop) : Prop := p
