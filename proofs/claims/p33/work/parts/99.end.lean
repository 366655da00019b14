theorem ts_end : True := trivial
