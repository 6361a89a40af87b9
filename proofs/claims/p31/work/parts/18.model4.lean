/-! The reference, 4: undo, keep, restore, aside, counts -/

