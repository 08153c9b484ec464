theorem ww_t : True := by
  have h := @slotType_none
  trivial
