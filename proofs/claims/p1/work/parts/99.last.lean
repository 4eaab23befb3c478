-- the last part
theorem tw_last : True := trivial
