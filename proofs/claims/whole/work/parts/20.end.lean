theorem tt_end : True := trivial
