/-! THE LAW: its code -/
abbrev b_Law_law : ByteArray := code
