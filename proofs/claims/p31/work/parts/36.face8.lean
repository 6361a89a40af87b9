/-! The bits of a share -/
