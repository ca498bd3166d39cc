/-- kept from the arithmetic -/
def zif (p q : Prop) : Prop := p ↔ q

