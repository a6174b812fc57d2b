/-- what built() leaves, for whoever goes on from there -/
def evB (k : gM → Bool) : Bool := stH (p_X8_addStation B0 0 0) 0 (fun u1 => stH (p_X8_addStation u1 0 3) 1 (fun u2 => stH (p_X8_addStation u2 1 0) 0 (fun u3 => stH (p_X8_addStation u3 1 2) 1 k)))
